section RS2
variable {nv nb n : Nat} {vrooms inv vsh : Nat → Int32} {itk : Int32} {amount mark place number paid blamed ways : Nat → Int32}
theorem rs_d0 (R : RelS nv nb n vrooms inv vsh itk amount mark place number paid blamed ways) {t d : Int32} (ht0 : 0 ≤ t.toInt) (ht : t.toInt ≤ 200) (hd : d = minI t (400 - itk)) (hd0 : d ≤ 0) : d = 0 := by
  have hbd := rs_bd R
  have hx : (400 - itk).toInt = 400 - itk.toInt := by rw [ts] <;> rw [t400] <;> omega
  rw [tle, t0] at hd0
  rw [te, t0]
  rw [hd, minI] at hd0 ⊢
  split at hd0 <;> rename_i q <;> rw [tlt, hx] at q
  · rw [if_pos (by rw [tlt, hx]; exact q)]
    rw [hx] at hd0 ⊢
    omega
  · rw [if_neg (by rw [tlt, hx]; exact q)]
    omega
theorem rs_endRound (R : RelS nv nb n vrooms inv vsh itk amount mark place number paid blamed ways) {j : Nat} (hj : j < nv) (hr : inv j + itk ≤ vrooms j) :
    RelS nv nb n vrooms (upd inv j (inv j + itk)) (upd vsh j (vsh j + sI (fun zi => decide (ways zi = (-1))) (fun _ => 1) n)) 0 amount mark (wr (cIn place number 116 0) (fun _ => 118) place n) (wr (cIn place number 116 0) (fun _ => nI j) number n) paid blamed (wr (fun zi => decide (ways zi = -1)) (fun _ => nI j) ways n) := by
  have hbd := rs_bd R
  obtain ⟨⟨hv, hb, hn⟩, hW, hA, hM, ⟨hk, hk4⟩, hV, hR, hp, hq⟩ := R
  generalize hw' : wr (fun zi => decide (ways zi = -1)) (fun _ => nI j) ways n = ways'
  have eW : ∀ i, i < n → (ways i = -1 → ways' i = nI j) ∧ (¬ ways i = -1 → ways' i = ways i) := by
    intro i hi
    rw [← hw', wr]
    refine ⟨fun q => by rw [if_pos ⟨hi, decide_eq_true q⟩], fun q => by rw [if_neg (fun w => q (of_decide_eq_true w.2))]⟩
  have eP : ∀ i, i < n → cIn place number 116 0 i = decide (ways i = -1) := fun i hi => way_t (hW i hi) hv hb
  have hs : ∀ {v : Nat} {f : Nat → Int32}, v < 4 → sI (fun i => decide (ways' i = nI v)) f n = if v = j then sI (fun i => decide (ways i = nI v)) f n + sI (fun i => decide (ways i = -1)) f n else sI (fun i => decide (ways i = nI v)) f n := by
    intro v f hv4
    split
    · rename_i e
      subst e
      refine sI_or (fun i hi => ?_) (fun i hi q1 q2 => ?_)
      · by_cases w : ways i = -1
        · rw [(eW i hi).1 w, decide_eq_true rfl, w, decide_eq_true (rfl : (-1 : Int32) = -1), Bool.or_true]
        · rw [(eW i hi).2 w, decide_eq_false w, Bool.or_false]
      · rw [of_decide_eq_true q2] at q1
        exact tv_m (v := v) (by omega) (of_decide_eq_true q1).symm
    · rename_i e
      refine sI_congr (fun i hi => ?_) (fun _ _ _ => rfl)
      by_cases w : ways i = -1
      · rw [(eW i hi).1 w, w, decide_eq_false (fun q => e ((tn_inj (by omega) (by omega)).mp q).symm), decide_eq_false (fun q => tv_m (v := v) (by omega) q.symm)]
      · rw [(eW i hi).2 w]
  refine ⟨⟨hv, hb, hn⟩, fun i hi => ?_, hA, hM, ⟨?_, by rw [t0]; omega⟩, fun v hv4 => ?_, hR, fun i hi => ?_, fun i hi => ?_⟩
  · have hh := hW i hi
    by_cases w : ways i = -1
    · refine Or.inr (Or.inl ⟨j, hj, (eW i hi).1 w, ?_, ?_⟩)
      · rw [wr, if_pos ⟨hi, by rw [eP i hi]; exact decide_eq_true w⟩]
      · rw [wr, if_pos ⟨hi, by rw [eP i hi]; exact decide_eq_true w⟩]
    · have h9 : ¬ (i < n ∧ cIn place number 116 0 i = true) := fun q => w (of_decide_eq_true ((eP i hi) ▸ q.2))
      unfold wayOk
      rw [(eW i hi).2 w, wr, wr, if_neg h9, if_neg h9]
      exact hh
  · refine (sI_0 fun i hi q => ?_).symm
    exfalso
    have q := of_decide_eq_true q
    by_cases w : ways i = -1
    · rw [(eW i hi).1 w] at q
      exact tv_m (v := j) (by omega) q
    · rw [(eW i hi).2 w] at q
      exact w q
  · obtain ⟨q1, q2, q3⟩ := hV v hv4
    rw [hs hv4, hs hv4, upd, upd]
    by_cases e : v = j
    · subst e
      rw [if_pos rfl, if_pos rfl, if_pos rfl, if_pos rfl, ← q1, ← q2, ← hk, if_pos hj]
      exact ⟨rfl, rfl, tle.mp hr⟩
    · rw [if_neg e, if_neg e, if_neg e, if_neg e]
      exact ⟨q1, q2, q3⟩
  all_goals
    first | rw [hp i hi] | rw [hq i hi]
    rcases Nat.lt_or_ge i n with h | h
    · rcases hW i h with ⟨w, -⟩ | ⟨v, hv', w, -⟩ | ⟨c, hc, w, -⟩
      · have w2 := (eW i h).1 w
        first
        | rw [pd_no (by rw [w]; decide), pd_no (by rw [w2]; exact tv_lt (by omega))]
        | rw [bd_no (by rw [w]; decide), bd_no (by rw [w2]; exact tv_lt (by omega))]
      · have w2 := (eW i h).2 (by rw [w]; exact tv_m (by omega))
        first
        | rw [pd_no (by rw [w]; exact tv_lt (by omega)), pd_no (by rw [w2, w]; exact tv_lt (by omega))]
        | rw [bd_no (by rw [w]; exact tv_lt (by omega)), bd_no (by rw [w2, w]; exact tv_lt (by omega))]
      · have w2 := (eW i h).2 (by rw [w]; exact tb_m (by omega))
        have k2 := pb_cg (n := n) (c := c) (mark := mark) (amount := amount) (ways := ways) (mark' := mark) (amount' := amount) (ways' := ways') h (by omega) w (by rw [w2, w]) (fun z hz => by
          show decide _ = decide _
          by_cases wz : ways z = -1
          · rw [(eW z hz).1 wz, wz, decide_eq_false (tv_b (v := j) (b := c) (by omega) (by omega)), decide_eq_false (fun q => tb_m (b := c) (by omega) q.symm)]
          · rw [(eW z hz).2 wz]) (fun z hz _ => rfl) (fun z hz => rfl)
        first
        | rw [k2.1]
        | rw [k2.2]
    · first
      | rw [pd_n (by omega), pd_n (by omega)]
      | rw [bd_n (by omega), bd_n (by omega)]
theorem rs_close (R : RelS nv nb n vrooms inv vsh itk amount mark place number paid blamed ways) {j : Nat} (hj : j < nv) (hb20 : nb < 20) :
    RelS nv (nb + 1) n vrooms (upd inv j 0) (upd vsh j 0) itk amount mark (wr (cIn place number 118 (nI j)) (fun _ => 98) place n) (wr (cIn place number 118 (nI j)) (fun _ => nI nb) number n)
      (stP mark (wr (cIn place number 118 (nI j)) (fun _ => 98) place n) (wr (cIn place number 118 (nI j)) (fun _ => nI nb) number n) amount paid (nI nb) n) (stB mark (wr (cIn place number 118 (nI j)) (fun _ => 98) place n) (wr (cIn place number 118 (nI j)) (fun _ => nI nb) number n) amount blamed (nI nb) n) (wr (fun zi => decide (ways zi = nI j)) (fun _ => 10 + nI nb) ways n) := by
  have hbd := rs_bd R
  obtain ⟨⟨hv, hb, hn⟩, hW, hA, hM, ⟨hk, hk4⟩, hV, hR, hp, hq⟩ := R
  generalize hw' : wr (fun zi => decide (ways zi = nI j)) (fun _ => 10 + nI nb) ways n = ways'
  have eW : ∀ i, i < n → (ways i = nI j → ways' i = 10 + nI nb) ∧ (¬ ways i = nI j → ways' i = ways i) := by
    intro i hi
    rw [← hw', wr]
    refine ⟨fun q => by rw [if_pos ⟨hi, decide_eq_true q⟩], fun q => by rw [if_neg (fun w => q (of_decide_eq_true w.2))]⟩
  have eP : ∀ i, i < n → cIn place number 118 (nI j) i = decide (ways i = nI j) := fun i hi => way_v (hW i hi) hv hb (by omega)
  have hW' : ∀ i, i < n → wayOk (wr (cIn place number 118 (nI j)) (fun _ => 98) place n) (wr (cIn place number 118 (nI j)) (fun _ => nI nb) number n) ways' nv (nb + 1) i := by
    intro i hi
    have hh := hW i hi
    by_cases w : ways i = nI j
    · refine Or.inr (Or.inr ⟨nb, by omega, (eW i hi).1 w, ?_, ?_⟩)
      · rw [wr, if_pos ⟨hi, by rw [eP i hi]; exact decide_eq_true w⟩]
      · rw [wr, if_pos ⟨hi, by rw [eP i hi]; exact decide_eq_true w⟩]
    · have h9 : ¬ (i < n ∧ cIn place number 118 (nI j) i = true) := fun q => w (of_decide_eq_true ((eP i hi) ▸ q.2))
      have h8 := hh.mono (Nat.le_refl nv) (show nb ≤ nb + 1 by omega)
      unfold wayOk at h8 ⊢
      rw [(eW i hi).2 w, wr, wr, if_neg h9, if_neg h9]
      exact h8
  have hs : ∀ {w : Int32} {f : Nat → Int32}, ¬ w = nI j → ¬ w = 10 + nI nb → sI (fun i => decide (ways' i = w)) f n = sI (fun i => decide (ways i = w)) f n := by
    intro w f h1 h2
    refine sI_congr (fun i hi => ?_) (fun _ _ _ => rfl)
    by_cases q : ways i = nI j
    · rw [(eW i hi).1 q, q, decide_eq_false (fun q => h2 q.symm), decide_eq_false (fun q => h1 q.symm)]
    · rw [(eW i hi).2 q]
  have hs0 : ∀ {f : Nat → Int32}, sI (fun i => decide (ways' i = nI j)) f n = 0 := by
    intro f
    refine sI_0 fun i hi q => ?_
    exfalso
    have q := of_decide_eq_true q
    by_cases w : ways i = nI j
    · rw [(eW i hi).1 w] at q
      exact tv_b (v := j) (b := nb) (by omega) (by omega) q.symm
    · rw [(eW i hi).2 w] at q
      exact w q
  have hn0 : ∀ i, i < n → ways' i = 10 + nI nb → ways i = nI j := by
    intro i hi q
    refine Classical.byContradiction fun w => ?_
    rw [(eW i hi).2 w] at q
    rcases hW i hi with ⟨h1, -⟩ | ⟨v, hv', h1, -⟩ | ⟨c, hc, h1, -⟩ <;> rw [h1] at q
    · exact tb_m (b := nb) (by omega) q.symm
    · exact tv_b (v := v) (b := nb) (by omega) (by omega) q
    · have := (tb_inj (by omega) (by omega)).mp q
      omega
  have keep : ∀ i, i < n → ¬ ways' i = 10 + nI nb → pdR ways' mark amount n i = pdR ways mark amount n i ∧ bdR ways' mark amount n i = bdR ways mark amount n i := by
    intro i h h'
    have hne : ¬ ways i = nI j := fun q => h' ((eW i h).1 q)
    have w2 := (eW i h).2 hne
    rcases hW i h with ⟨w, -⟩ | ⟨v, hv', w, -⟩ | ⟨c, hc, w, -⟩
    · have k : ways i < 10 := by rw [w]; decide
      rw [pd_no k, bd_no k, pd_no (by rw [w2]; exact k), bd_no (by rw [w2]; exact k)]
      exact ⟨rfl, rfl⟩
    · have k : ways i < 10 := by rw [w]; exact tv_lt (by omega)
      rw [pd_no k, bd_no k, pd_no (by rw [w2]; exact k), bd_no (by rw [w2]; exact k)]
      exact ⟨rfl, rfl⟩
    · refine pb_cg (n := n) (c := c) h (by omega) w (by rw [w2, w]) (fun z hz => ?_) (fun z hz _ => rfl) (fun z hz => rfl)
      show decide _ = decide _
      by_cases wz : ways z = nI j
      · rw [(eW z hz).1 wz, wz, decide_eq_false (tv_b (v := j) (b := c) (by omega) (by omega)), decide_eq_false (fun q => by have := (tb_inj (by omega) (by omega)).mp q; omega)]
      · rw [(eW z hz).2 wz]
  have no : ∀ i, i < n → ways' i = 10 + nI nb → ways i < 10 := fun i hi q => by rw [hn0 i hi q]; exact tv_lt (by omega)
  refine ⟨⟨hv, by omega, hn⟩, hW', hA, hM, ⟨by rw [hs (fun q => tv_m (v := j) (by omega) q.symm) (fun q => tb_m (b := nb) (by omega) q.symm)]; exact hk, hk4⟩, fun v hv4 => ?_, hR, fun i hi => ?_, fun i hi => ?_⟩
  · obtain ⟨q1, q2, q3⟩ := hV v hv4
    rw [upd, upd]
    by_cases e : v = j
    · subst e
      rw [if_pos rfl, if_pos rfl, hs0, hs0, if_pos hj]
      exact ⟨rfl, rfl, by have := hbd.2.2 v hj; rw [t0]; omega⟩
    · have e2 : ¬ nI v = nI j := fun q => e ((tn_inj (by omega) (by omega)).mp q)
      rw [if_neg e, if_neg e, hs e2 (tv_b (by omega) (by omega)), hs e2 (tv_b (by omega) (by omega))]
      exact ⟨q1, q2, q3⟩
  · rw [stP_e hW' hA hv (by omega) hn (by omega) (fun z hz q => by rw [hp z (by omega), pd_no (no z hz q)])]
    by_cases h : i < n
    · by_cases h2 : ways' i = 10 + nI nb
      · rw [if_pos ⟨h, h2⟩, pd_b h (by omega) h2]
      · rw [if_neg (fun q => h2 q.2), hp i hi, (keep i h h2).1]
    · rw [if_neg (fun q => h q.1), hp i hi, pd_n (by omega), pd_n (by omega)]
  · rw [stB_e hW' hA hv (by omega) hn (by omega) (fun z hz q => by rw [hq z (by omega), bd_no (no z hz q)])]
    by_cases h : i < n
    · by_cases h2 : ways' i = 10 + nI nb
      · rw [if_pos ⟨h, h2⟩, bd_b h (by omega) h2]
      · rw [if_neg (fun q => h2 q.2), hq i hi, (keep i h h2).2]
    · rw [if_neg (fun q => h q.1), hq i hi, bd_n (by omega), bd_n (by omega)]
theorem gr_keep {j i : Nat} {g : Int32} (hv : nv ≤ 4) (hb : nb ≤ 20) (hW : ∀ i, i < n → wayOk place number ways nv nb i) (h : i < n) (hne : ∀ c, c < nb → ways i = 10 + nI c → ¬ ways j = 10 + nI c) : pdR ways (upd mark j g) amount n i = pdR ways mark amount n i ∧ bdR ways (upd mark j g) amount n i = bdR ways mark amount n i := by
  rcases hW i h with ⟨w, -⟩ | ⟨v, hv', w, -⟩ | ⟨c, hc, w, -⟩
  · have k : ways i < 10 := by rw [w]; decide
    rw [pd_no k, bd_no k, pd_no k, bd_no k]
    exact ⟨rfl, rfl⟩
  · have k : ways i < 10 := by rw [w]; exact tv_lt (by omega)
    rw [pd_no k, bd_no k, pd_no k, bd_no k]
    exact ⟨rfl, rfl⟩
  · refine pb_cg (n := n) (c := c) h (by omega) w w (fun z hz => rfl) (fun z hz q => ?_) (fun z hz => rfl)
    rw [upd, if_neg]
    intro e
    subst e
    exact hne c hc w (of_decide_eq_true q)
theorem rs_grade0 (R : RelS nv nb n vrooms inv vsh itk amount mark place number paid blamed ways) {j : Nat} (hj : j < n) {g : Int32} (hg : g = 97 ∨ g = 98 ∨ g = 99 ∨ g = 120) (hpl : ¬ place j = 98) : RelS nv nb n vrooms inv vsh itk amount (upd mark j g) place number paid blamed ways := by
  obtain ⟨⟨hv, hb, hn⟩, hW, hA, hM, hk, hV, hR, hp, hq⟩ := R
  have hne : ∀ c, c < nb → ¬ ways j = 10 + nI c := by
    intro c hc q
    have := way_b (hW j hj) hv hb (b := c) (by omega)
    rw [decide_eq_true q, cIn] at this
    simp only [Bool.and_eq_true, decide_eq_true_eq] at this
    exact hpl this.1
  refine ⟨⟨hv, hb, hn⟩, hW, hA, fun i hi => ?_, hk, hV, hR, fun i hi => ?_, fun i hi => ?_⟩
  · unfold markOk
    rw [upd]
    split
    · exact Or.inr hg
    · exact hM i hi
  · by_cases h : i < n
    · rw [hp i hi, (gr_keep hv hb hW h (fun c hc _ => hne c hc)).1]
    · rw [hp i hi, pd_n (by omega), pd_n (by omega)]
  · by_cases h : i < n
    · rw [hq i hi, (gr_keep hv hb hW h (fun c hc _ => hne c hc)).2]
    · rw [hq i hi, bd_n (by omega), bd_n (by omega)]
theorem rs_grade (R : RelS nv nb n vrooms inv vsh itk amount mark place number paid blamed ways) {j : Nat} (hj : j < n) {g : Int32} (hg : g = 97 ∨ g = 98 ∨ g = 99 ∨ g = 120) (hm : mark j = 45) (hpl : place j = 98) : RelS nv nb n vrooms inv vsh itk amount (upd mark j g) place number (stP (upd mark j g) place number amount paid (number j) n) (stB (upd mark j g) place number amount blamed (number j) n) ways := by
  obtain ⟨⟨hv, hb, hn⟩, hW, hA, hM, hk, hV, hR, hp, hq⟩ := R
  obtain ⟨c, hc, w, hnum⟩ : ∃ c, c < nb ∧ ways j = 10 + nI c ∧ number j = nI c := by
    rcases hW j hj with ⟨-, h2, -⟩ | ⟨v, hv', -, h2, -⟩ | ⟨c, hc, h1, -, h3⟩
    · rw [hpl] at h2; exact absurd h2 (by decide)
    · rw [hpl] at h2; exact absurd h2 (by decide)
    · exact ⟨c, hc, h1, h3⟩
  have hun : hsP (bB ways c) mark 45 n = true := eB_iff.mpr ⟨j, hj, by simp [w, hm]⟩
  rw [hnum]
  refine ⟨⟨hv, hb, hn⟩, hW, hA, fun i hi => ?_, hk, hV, hR, fun i hi => ?_, fun i hi => ?_⟩
  · unfold markOk
    rw [upd]
    split
    · exact Or.inr hg
    · exact hM i hi
  · rw [stP_e hW hA hv hb hn (by omega) (fun z hz q => by rw [hp z (by omega), pd_b hz (by omega) q, if_pos hun])]
    by_cases h : i < n
    · by_cases h2 : ways i = 10 + nI c
      · rw [if_pos ⟨h, h2⟩, pd_b h (by omega) h2]
      · rw [if_neg (fun q => h2 q.2), hp i hi, (gr_keep hv hb hW h (fun c' hc' q1 q2 => by
          have := (tb_inj (by omega) (by omega)).mp (w.symm.trans q2)
          subst this
          exact h2 q1)).1]
    · rw [if_neg (fun q => h q.1), hp i hi, pd_n (by omega), pd_n (by omega)]
  · rw [stB_e hW hA hv hb hn (by omega) (fun z hz q => by rw [hq z (by omega), bd_b hz (by omega) q, if_pos hun])]
    by_cases h : i < n
    · by_cases h2 : ways i = 10 + nI c
      · rw [if_pos ⟨h, h2⟩, bd_b h (by omega) h2]
      · rw [if_neg (fun q => h2 q.2), hq i hi, (gr_keep hv hb hW h (fun c' hc' q1 q2 => by
          have := (tb_inj (by omega) (by omega)).mp (w.symm.trans q2)
          subst this
          exact h2 q1)).2]
    · rw [if_neg (fun q => h q.1), hq i hi, bd_n (by omega), bd_n (by omega)]
end RS2
