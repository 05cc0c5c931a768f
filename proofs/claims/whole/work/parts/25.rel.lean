def pdR (ways mark amount : Nat → Int32) (n i : Nat) : Int32 := if i < n ∧ cnt ways mark n i = true then payM ways mark amount n i else 0
def bdR (ways mark amount : Nat → Int32) (n i : Nat) : Int32 := if i < n ∧ cnt ways mark n i = true then blM ways mark amount n i else 0
abbrev bB (ways : Nat → Int32) (c : Nat) : Nat → Bool := fun i => decide (ways i = 10 + nI c)
section PD
variable {n c i : Nat} {amount mark ways : Nat → Int32}
theorem pd_no (h : ways i < 10) : pdR ways mark amount n i = 0 := by rw [pdR, cnt_no h]; simp
theorem bd_no (h : ways i < 10) : bdR ways mark amount n i = 0 := by rw [bdR, cnt_no h]; simp
theorem pd_n (h : n ≤ i) : pdR ways mark amount n i = 0 := by rw [pdR, if_neg]; rintro ⟨q, -⟩; omega
theorem bd_n (h : n ≤ i) : bdR ways mark amount n i = 0 := by rw [bdR, if_neg]; rintro ⟨q, -⟩; omega
theorem pd_b (hi : i < n) (hc : c ≤ 20) (h : ways i = 10 + nI c) : pdR ways mark amount n i = if hsP (bB ways c) mark 45 n = true then 0 else pyP (bB ways c) mark amount n i := by
  rw [pdR, cnt_P hc h, payM_P hc h]
  cases hsP (fun i => decide (ways i = 10 + nI c)) mark 45 n <;> simp [hi]
theorem bd_b (hi : i < n) (hc : c ≤ 20) (h : ways i = 10 + nI c) : bdR ways mark amount n i = if hsP (bB ways c) mark 45 n = true then 0 else bmP (bB ways c) mark amount n i := by
  rw [bdR, cnt_P hc h]
  cases hsP (fun i => decide (ways i = 10 + nI c)) mark 45 n
  · simp [hi, blM_P hc h hi]
  · simp
theorem pb_cg {ways' mark' amount' : Nat → Int32} (hi : i < n) (hc : c ≤ 20) (h : ways i = 10 + nI c) (h' : ways' i = 10 + nI c) (hB : ∀ z, z < n → bB ways' c z = bB ways c z) (hm : ∀ z, z < n → bB ways c z = true → mark' z = mark z) (ha : ∀ z, z < n → amount' z = amount z) : pdR ways' mark' amount' n i = pdR ways mark amount n i ∧ bdR ways' mark' amount' n i = bdR ways mark amount n i := by
  rw [pd_b hi hc h, pd_b hi hc h', bd_b hi hc h, bd_b hi hc h', hsP_cg hB hm, pyP_cg hB hm ha hi (decide_eq_true h), bmP_cg hB hm ha hi (decide_eq_true h)]
  exact ⟨rfl, rfl⟩
theorem pb_1 (hi : i < n) (hc : c ≤ 20) (h : ways i = 10 + nI c) (hn : bB ways c n = false) : pdR ways mark amount (n + 1) i = pdR ways mark amount n i ∧ bdR ways mark amount (n + 1) i = bdR ways mark amount n i := by
  rw [pd_b hi hc h, pd_b (by omega) hc h, bd_b hi hc h, bd_b (by omega) hc h, hsP_1 hn, pyP_1 hn, bmP_1 hn]
  exact ⟨rfl, rfl⟩
end PD
def RelS (nv nb n : Nat) (vrooms inv vsh : Nat → Int32) (itk : Int32) (amount mark place number paid blamed ways : Nat → Int32) : Prop :=
  (nv ≤ 4 ∧ nb ≤ 20 ∧ n ≤ 100) ∧ (∀ i, i < n → wayOk place number ways nv nb i) ∧ (∀ i, i < n → 1 ≤ (amount i).toInt ∧ (amount i).toInt ≤ 400) ∧ (∀ i, i < n → markOk mark i) ∧
  (itk = sI (fun i => decide (ways i = -1)) amount n ∧ itk.toInt ≤ 400) ∧
  (∀ v, v < 4 → inv v = sI (fun i => decide (ways i = nI v)) amount n ∧ vsh v = sI (fun i => decide (ways i = nI v)) (fun _ => 1) n ∧ (inv v).toInt ≤ if v < nv then (vrooms v).toInt else 0) ∧
  (∀ v, v < nv → (vrooms v).toInt ≤ 900) ∧ (∀ i, i < 100 → paid i = pdR ways mark amount n i) ∧ (∀ i, i < 100 → blamed i = bdR ways mark amount n i)
theorem sI_or {p q r : Nat → Bool} {f : Nat → Int32} : ∀ {n : Nat}, (∀ i, i < n → p i = (q i || r i)) → (∀ i, i < n → q i = true → r i = true → False) → sI p f n = sI q f n + sI r f n
  | 0, _, _ => rfl
  | n + 1, h1, h2 => by
    have e := h1 n (by omega)
    have e2 := h2 n (by omega)
    rw [sI, sI, sI, sI_or (fun i hi => h1 i (by omega)) (fun i hi => h2 i (by omega)), e]
    cases hq : q n <;> cases hr : r n
    · simp
    · simp [Int32.add_assoc]
    · simp only [Bool.or_false, if_true, Bool.false_eq_true, if_false, Int32.add_zero]
      rw [Int32.add_assoc, Int32.add_comm (sI r f n), ← Int32.add_assoc]
    · exact (e2 hq hr).elim
theorem wayOk.mono {place number ways : Nat → Int32} {nv nb nv' nb' i : Nat} (h : wayOk place number ways nv nb i) (h1 : nv ≤ nv') (h2 : nb ≤ nb') : wayOk place number ways nv' nb' i := by
  rcases h with h | ⟨v, hv, h⟩ | ⟨c, hc, h⟩
  · exact Or.inl h
  · exact Or.inr (Or.inl ⟨v, by omega, h⟩)
  · exact Or.inr (Or.inr ⟨c, by omega, h⟩)
theorem amt_b {n : Nat} {amount : Nat → Int32} (hA : ∀ i, i < n → 1 ≤ (amount i).toInt ∧ (amount i).toInt ≤ 400) (hn : n ≤ 100) (p : Nat → Bool) : 0 ≤ (sI p amount n).toInt ∧ (sI p amount n).toInt ≤ 40000 := by
  have := sI_b (p := p) (M := 400) (by omega) (n := n) (by omega) (fun i hi _ => ⟨by have := hA i hi; omega, (hA i hi).2⟩)
  omega
section RS
variable {nv nb n : Nat} {vrooms inv vsh : Nat → Int32} {itk : Int32} {amount mark place number paid blamed ways : Nat → Int32}
theorem rs_tk (R : RelS nv nb n vrooms inv vsh itk amount mark place number paid blamed ways) : itk = inTk place number amount n := by
  obtain ⟨⟨h1, h2, h3⟩, hW, -, -, ⟨hk, -⟩, -⟩ := R
  rw [hk]
  exact (sI_congr (fun i hi => way_t (hW i hi) h1 h2) (fun _ _ _ => rfl)).symm
theorem rs_vt (R : RelS nv nb n vrooms inv vsh itk amount mark place number paid blamed ways) {v : Nat} (hv : v < 4) : inv v = inVt place number amount (nI v) n := by
  obtain ⟨⟨h1, h2, h3⟩, hW, -, -, -, hV, -⟩ := R
  rw [(hV v hv).1]
  exact (sI_congr (fun i hi => way_v (hW i hi) h1 h2 (by omega)) (fun _ _ _ => rfl)).symm
theorem rs_ct (R : RelS nv nb n vrooms inv vsh itk amount mark place number paid blamed ways) : sI (cIn place number 116 0) (fun _ => 1) n = sI (fun i => decide (ways i = (-1))) (fun _ => 1) n := by
  obtain ⟨⟨h1, h2, h3⟩, hW, -⟩ := R
  exact sI_congr (fun i hi => way_t (hW i hi) h1 h2) (fun _ _ _ => rfl)
theorem rs_cv (R : RelS nv nb n vrooms inv vsh itk amount mark place number paid blamed ways) {v : Nat} (hv : v < 4) : sI (cIn place number 118 (nI v)) (fun _ => 1) n = vsh v := by
  obtain ⟨⟨h1, h2, h3⟩, hW, -, -, -, hV, -⟩ := R
  rw [(hV v hv).2.1]
  exact sI_congr (fun i hi => way_v (hW i hi) h1 h2 (by omega)) (fun _ _ _ => rfl)
theorem rs_bd (R : RelS nv nb n vrooms inv vsh itk amount mark place number paid blamed ways) : 0 ≤ itk.toInt ∧ itk.toInt ≤ 400 ∧ ∀ v, v < nv → 0 ≤ (inv v).toInt ∧ (inv v).toInt ≤ (vrooms v).toInt ∧ (vrooms v).toInt ≤ 900 := by
  obtain ⟨⟨h1, h2, h3⟩, hW, hA, -, ⟨hk, hk4⟩, hV, hR, -⟩ := R
  refine ⟨by rw [hk]; exact (amt_b hA h3 _).1, hk4, fun v hv => ?_⟩
  obtain ⟨q1, -, q3⟩ := hV v (by omega)
  rw [if_pos hv] at q3
  exact ⟨by rw [q1]; exact (amt_b hA h3 _).1, q3, hR v hv⟩
/-- the room test of the end of a round -/
theorem rs_room (R : RelS nv nb n vrooms inv vsh itk amount mark place number paid blamed ways) {v : Nat} (hv : v < nv) : inTk place number amount n ≤ vrooms v - inVt place number amount (nI v) n ↔ inv v + itk ≤ vrooms v := by
  have hb := rs_bd R
  have hv4 : v < 4 := by have := R.1.1; omega
  rw [← rs_tk R, ← rs_vt R hv4, tle, tle]
  have h := hb.2.2 v hv
  rw [ts (by omega) (by omega), ta (by omega) (by omega)]
  omega
theorem rs_addVat (R : RelS nv nb n vrooms inv vsh itk amount mark place number paid blamed ways) (hv : nv < 4) {room : Int32} (h1 : ¬ room < 100) (h2 : room ≤ 900) : RelS (nv + 1) nb n (upd vrooms nv room) inv vsh itk amount mark place number paid blamed ways := by
  obtain ⟨⟨-, hb, hn⟩, hW, hA, hM, hk, hV, hR, hp⟩ := R
  rw [tlt, t100] at h1
  rw [tle, t900] at h2
  refine ⟨⟨by omega, hb, hn⟩, fun i hi => (hW i hi).mono (by omega) (Nat.le_refl _), hA, hM, hk, fun v hv4 => ?_, fun v hv5 => ?_, hp⟩
  · obtain ⟨q1, q2, q3⟩ := hV v hv4
    refine ⟨q1, q2, ?_⟩
    rw [upd]
    by_cases e : v = nv
    · subst e
      rw [if_neg (by omega)] at q3
      rw [if_pos (by omega), if_pos rfl]
      omega
    · rw [if_neg e]
      by_cases e2 : v < nv
      · rw [if_pos e2] at q3
        rw [if_pos (by omega)]
        exact q3
      · rw [if_neg e2] at q3
        rw [if_neg (by omega)]
        exact q3
  · rw [upd]
    by_cases e : v = nv
    · rw [if_pos e]; exact h2
    · rw [if_neg e]; exact hR v (by omega)
theorem rs_visit (R : RelS nv nb n vrooms inv vsh itk amount mark place number paid blamed ways) (hn : n < 100) {t d : Int32} (ht : t.toInt ≤ 200) (hd : d = minI t (400 - itk)) (hd0 : 0 < d) : RelS nv nb (n + 1) vrooms inv vsh (itk + d) (upd amount n d) (upd mark n 45) (upd place n 116) (upd number n 0) paid blamed (upd ways n (-1)) := by
  have hbd := rs_bd R
  obtain ⟨⟨hv, hb, -⟩, hW, hA, hM, ⟨hk, hk4⟩, hV, hR, hp, hq⟩ := R
  have hx : (400 - itk).toInt = 400 - itk.toInt := by rw [ts] <;> rw [t400] <;> omega
  have hd1 : d.toInt ≤ t.toInt ∧ d.toInt ≤ 400 - itk.toInt := by
    rw [hd, minI]
    split
    · rename_i q
      rw [tlt, hx] at q
      rw [hx]; omega
    · rename_i q
      rw [tlt, hx] at q
      omega
  rw [tlt, t0] at hd0
  have eU : ∀ {f : Nat → Int32} {x : Int32} {i : Nat}, i < n → upd f n x i = f i := fun hi => by rw [upd, if_neg (by omega)]
  have eN : ∀ {f : Nat → Int32} {x : Int32}, upd f n x n = x := by intros; rw [upd, if_pos rfl]
  have hs : ∀ {w : Int32} {f : Nat → Int32} {x : Int32}, sI (fun i => decide (upd ways n (-1) i = w)) (upd f n x) (n + 1) = sI (fun i => decide (ways i = w)) f n + (if (-1 : Int32) = w then x else 0) := by
    intro w f x
    rw [sI, eN, eN, sI_congr (q := fun i => decide (ways i = w)) (g := f) (fun i hi => by rw [eU hi]) (fun i hi _ => eU hi)]
    simp only [decide_eq_true_eq]
  refine ⟨⟨hv, hb, by omega⟩, fun i hi => ?_, fun i hi => ?_, fun i hi => ?_, ⟨by rw [hs, if_pos rfl, ← hk], by rw [ta (by omega) (by omega)]; omega⟩, fun v hv4 => ?_, hR, fun i hi => ?_, fun i hi => ?_⟩
  · by_cases e : i = n
    · subst e
      exact Or.inl ⟨eN, eN, eN⟩
    · have := hW i (by omega)
      unfold wayOk
      rw [eU (by omega), eU (by omega), eU (by omega)]
      exact this
  · by_cases e : i = n
    · subst e
      rw [eN]; omega
    · rw [eU (by omega)]
      exact hA i (by omega)
  · by_cases e : i = n
    · subst e
      exact Or.inl eN
    · have := hM i (by omega)
      unfold markOk
      rw [eU (by omega)]
      exact this
  · obtain ⟨q1, q2, q3⟩ := hV v hv4
    have h9 : ¬ (-1 : Int32) = nI v := fun q => tv_m (v := v) (by omega) q.symm
    refine ⟨by rw [hs, if_neg h9, Int32.add_zero, q1], ?_, q3⟩
    have := hs (w := nI v) (f := fun _ => 1) (x := 1)
    rw [if_neg h9, Int32.add_zero] at this
    rw [q2, ← this]
    exact sI_congr (fun _ _ => rfl) (fun i _ _ => by rw [upd]; split <;> rfl)
  all_goals
    first | rw [hp i hi] | rw [hq i hi]
    rcases Nat.lt_trichotomy i n with h | h | h
    · rcases hW i h with ⟨w, -⟩ | ⟨v, hv', w, -⟩ | ⟨c, hc, w, -⟩
      · first
        | rw [pd_no (by rw [w]; decide), pd_no (by rw [eU h, w]; decide)]
        | rw [bd_no (by rw [w]; decide), bd_no (by rw [eU h, w]; decide)]
      · first
        | rw [pd_no (by rw [w]; exact tv_lt (by omega)), pd_no (by rw [eU h, w]; exact tv_lt (by omega))]
        | rw [bd_no (by rw [w]; exact tv_lt (by omega)), bd_no (by rw [eU h, w]; exact tv_lt (by omega))]
      · have k1 := pb_1 (n := n) (c := c) (mark := upd mark n 45) (amount := upd amount n d) (ways := upd ways n (-1)) h (by omega) (by rw [eU h, w]) (decide_eq_false (by rw [eN]; exact fun q => tb_m (b := c) (by omega) q.symm))
        have k2 := pb_cg (n := n) (c := c) (mark := mark) (amount := amount) (ways := ways) (mark' := upd mark n 45) (amount' := upd amount n d) (ways' := upd ways n (-1)) h (by omega) w (by rw [eU h, w]) (fun z hz => by show decide _ = decide _; rw [eU hz]) (fun z hz _ => eU hz) (fun z hz => eU hz)
        first
        | rw [k1.1, k2.1]
        | rw [k1.2, k2.2]
    · subst h
      first
      | rw [pd_n (Nat.le_refl _), pd_no (by rw [eN]; decide)]
      | rw [bd_n (Nat.le_refl _), bd_no (by rw [eN]; decide)]
    · first
      | rw [pd_n (by omega), pd_n (by omega)]
      | rw [bd_n (by omega), bd_n (by omega)]
end RS
