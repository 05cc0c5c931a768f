def RelF (nf : Nat) (rooms tanks bests cows : Nat → Int32) (bst : Nat → Nat → Int32) : Prop :=
  nf ≤ 6 ∧ (∀ j, j < 6 → ∀ c, c < 5 → bst j c = bests (5 * j + c)) ∧ (∃ cw : Nat → Nat, ∀ j, j < 6 → cows j = nI (cw j) ∧ cw j ≤ 5 ∧ ∀ c, c < cw j → 5 ≤ (bst j c).toInt ∧ (bst j c).toInt ≤ 30) ∧
  (∀ j, j < 6 → 0 ≤ (tanks j).toInt ∧ (tanks j).toInt ≤ if j < nf then (rooms j).toInt else 0) ∧ (∀ j, j < nf → (rooms j).toInt ≤ 200)
section RF
variable {nf : Nat} {rooms tanks bests cows : Nat → Int32} {bst : Nat → Nat → Int32}
theorem rf_addFarm (F : RelF nf rooms tanks bests cows bst) (hn : nf < 6) {room : Int32} (h1 : ¬ room < 10) (h2 : room ≤ 200) : RelF (nf + 1) (upd rooms nf room) tanks bests cows bst := by
  obtain ⟨-, hB, hC, hT, hR⟩ := F
  rw [tlt, t10] at h1
  rw [tle, t200] at h2
  refine ⟨by omega, hB, hC, fun j hj => ?_, fun j hj => ?_⟩
  · obtain ⟨q1, q2⟩ := hT j hj
    refine ⟨q1, ?_⟩
    rw [upd]
    by_cases e : j = nf
    · subst e
      rw [if_neg (by omega)] at q2
      rw [if_pos (by omega), if_pos rfl]
      omega
    · rw [if_neg e]
      by_cases e2 : j < nf
      · rw [if_pos e2] at q2
        rw [if_pos (by omega)]
        exact q2
      · rw [if_neg e2] at q2
        rw [if_neg (by omega)]
        exact q2
  · rw [upd]
    by_cases e : j = nf
    · rw [if_pos e]; exact h2
    · rw [if_neg e]; exact hR j (by omega)
theorem rf_addCow (F : RelF nf rooms tanks bests cows bst) {j cz : Nat} (hj : j < nf) {best : Int32} (h1 : ¬ best < 5) (h2 : best ≤ 30) (hc : cows j = nI cz) (hc5 : cz < 5) : RelF nf rooms tanks (upd bests (5 * j + cz) best) (upd cows j (nI (cz + 1))) (fun i => if i = j then upd (bst j) cz best else bst i) := by
  obtain ⟨hn, hB, ⟨cw, hC⟩, hT, hR⟩ := F
  rw [tlt, t5] at h1
  rw [tle, t30] at h2
  refine ⟨hn, fun i hi c hc' => ?_, ⟨fun i => if i = j then cz + 1 else cw i, fun i hi => ?_⟩, hT, hR⟩
  · show (if i = j then upd (bst j) cz best else bst i) c = upd bests (5 * j + cz) best (5 * i + c)
    rw [upd]
    by_cases e : i = j
    · subst e
      rw [if_pos rfl, upd]
      by_cases e2 : c = cz
      · rw [if_pos e2, if_pos (by omega)]
      · rw [if_neg e2, if_neg (by omega)]
        exact hB i hi c hc'
    · rw [if_neg e, if_neg (by omega)]
      exact hB i hi c hc'
  · show upd cows j (nI (cz + 1)) i = nI (if i = j then cz + 1 else cw i) ∧ (if i = j then cz + 1 else cw i) ≤ 5 ∧ ∀ c, c < (if i = j then cz + 1 else cw i) → 5 ≤ ((if i = j then upd (bst j) cz best else bst i) c).toInt ∧ ((if i = j then upd (bst j) cz best else bst i) c).toInt ≤ 30
    rw [upd]
    obtain ⟨q1, q2, q3⟩ := hC i hi
    by_cases e : i = j
    · subst e
      have hcz : cw i = cz := (tn_inj (by omega) (by omega)).mp (q1.symm.trans hc)
      simp only [if_true]
      refine ⟨trivial, by omega, fun c hc' => ?_⟩
      rw [upd]
      by_cases e2 : c = cz
      · rw [if_pos e2]; omega
      · rw [if_neg e2]
        exact q3 c (by omega)
    · simp only [if_neg e]
      exact ⟨q1, q2, q3⟩
theorem rf_draw (F : RelF nf rooms tanks bests cows bst) {j : Nat} (hj : j < nf) {itk : Int32} (hi0 : 0 ≤ itk.toInt) (hi : itk.toInt ≤ 400) : RelF nf rooms (upd tanks j (tanks j - minI (tanks j) (400 - itk))) bests cows bst ∧ 0 ≤ (tanks j).toInt ∧ (tanks j).toInt ≤ 200 := by
  obtain ⟨hn, hB, hC, hT, hR⟩ := F
  have hx : (400 - itk).toInt = 400 - itk.toInt := by rw [ts] <;> rw [t400] <;> omega
  have hj6 := hT j (by omega)
  rw [if_pos hj] at hj6
  have hr := hR j hj
  refine ⟨⟨hn, hB, hC, fun i hi => ?_, hR⟩, hj6.1, by omega⟩
  rw [upd]
  by_cases e : i = j
  · subst e
    rw [if_pos rfl, if_pos hj]
    have hm : 0 ≤ (minI (tanks i) (400 - itk)).toInt ∧ (minI (tanks i) (400 - itk)).toInt ≤ (tanks i).toInt := by
      rw [minI]
      split
      · rename_i q
        rw [tlt, hx] at q
        rw [hx]; omega
      · omega
    rw [ts (by omega) (by omega)]
    omega
  · rw [if_neg e]
    exact hT i hi
/-! milk -/
theorem milkC_b {b d : Int32} (hb : 5 ≤ b.toInt ∧ b.toInt ≤ 30) {k : Nat} (hd : d = nI k) (hk : k ≤ 999) : 5 ≤ (milkC b d).toInt ∧ (milkC b d).toInt ≤ 30 := by
  have h1 : d.toInt = k := by rw [hd]; exact tn (by omega)
  have h2 : (d / 10).toInt = (k / 10 : Nat) := by
    rw [Int32.toInt_div, h1, t10, Int.tdiv_eq_ediv_of_nonneg (by omega), Int.bmod_def]
    split <;> omega
  have h3 : (d / 10 * 10).toInt = (k / 10 : Nat) * 10 := by rw [tm] <;> rw [h2, t10] <;> omega
  have h4 : (rem10 d).toInt = (k : Int) - (k / 10 : Nat) * 10 := by rw [rem10, ts] <;> rw [h1, h3] <;> omega
  have h5 : (5 - rem10 d).toInt = 5 - ((k : Int) - (k / 10 : Nat) * 10) := by rw [ts] <;> rw [t5, h4] <;> omega
  have h6 : 0 ≤ (absI (5 - rem10 d)).toInt ∧ (absI (5 - rem10 d)).toInt ≤ 5 := by
    rw [absI]
    split
    · rename_i q
      rw [tle, t0] at q
      omega
    · rename_i q
      rw [tle, t0] at q
      rw [ts] <;> rw [t0] <;> omega
  have h7 : (b - absI (5 - rem10 d)).toInt = b.toInt - (absI (5 - rem10 d)).toInt := ts (by omega) (by omega)
  rw [milkC]
  split
  · rename_i q
    rw [tlt, t5] at q
    omega
  · rw [t5]; omega
theorem milkF_b {row : Nat → Int32} {d : Int32} {k : Nat} (hd : d = nI k) (hk : k ≤ 999) {c : Nat} (hc : c ≤ 5) (hr : ∀ i, i < c → 5 ≤ (row i).toInt ∧ (row i).toInt ≤ 30) : 0 ≤ (milkF row d c).toInt ∧ (milkF row d c).toInt ≤ c * 30 := by
  have := sI_b (p := fun _ => true) (f := fun i => milkC (row i) d) (M := 30) (n := c) (by omega) (by omega) (fun i hi _ => by have := milkC_b (hr i hi) hd hk; omega)
  exact this
theorem minI_i {x y : Int32} : (minI x y).toInt = if y.toInt < x.toInt then y.toInt else x.toInt := by
  rw [minI]
  split
  · rename_i q
    rw [tlt] at q
    rw [if_pos q]
  · rename_i q
    rw [tlt] at q
    rw [if_neg q]
theorem mt_e {row : Nat → Int32} {d rm t0' : Int32} {k : Nat} (hd : d = nI k) (hk : k ≤ 999) (h0 : 0 ≤ t0'.toInt) (h1 : t0'.toInt ≤ rm.toInt) (h2 : rm.toInt ≤ 200) : ∀ {c : Nat}, c ≤ 5 → (∀ i, i < c → 5 ≤ (row i).toInt ∧ (row i).toInt ≤ 30) →
    mt row d rm t0' c = t0' + minI (milkF row d c) (rm - t0') ∧ mp row d rm t0' c = milkF row d c - minI (milkF row d c) (rm - t0')
  | 0, _, _ => by
    have hx : (rm - t0').toInt = rm.toInt - t0'.toInt := ts (by omega) (by omega)
    have hm : minI (milkF row d 0) (rm - t0') = 0 := by
      rw [te, minI_i, hx]
      show (if _ < (0 : Int32).toInt then _ else (0 : Int32).toInt) = (0 : Int32).toInt
      rw [t0, if_neg (by omega)]
    rw [hm]
    exact ⟨(Int32.add_zero _).symm, show (0 : Int32) = 0 - 0 by decide⟩
  | c + 1, hc, hr => by
    obtain ⟨i1, i2⟩ := mt_e hd hk h0 h1 h2 (c := c) (by omega) (fun i hi => hr i (by omega))
    have hS := milkF_b hd hk (c := c) (by omega) (fun i hi => hr i (by omega))
    have hm := milkC_b (hr c (by omega)) hd hk
    have e1 : milkF row d (c + 1) = milkF row d c + milkC (row c) d := rfl
    have hS1 : (milkF row d (c + 1)).toInt = (milkF row d c).toInt + (milkC (row c) d).toInt := by rw [e1]; exact ta (by omega) (by omega)
    have hx : (rm - t0').toInt = rm.toInt - t0'.toInt := ts (by omega) (by omega)
    have ea : (minI (milkF row d c) (rm - t0')).toInt = if rm.toInt - t0'.toInt < (milkF row d c).toInt then rm.toInt - t0'.toInt else (milkF row d c).toInt := by rw [minI_i, hx]
    have eb : (minI (milkF row d (c + 1)) (rm - t0')).toInt = if rm.toInt - t0'.toInt < (milkF row d (c + 1)).toInt then rm.toInt - t0'.toInt else (milkF row d (c + 1)).toInt := by rw [minI_i, hx]
    rw [hS1] at eb
    have ra : 0 ≤ (minI (milkF row d c) (rm - t0')).toInt ∧ (minI (milkF row d c) (rm - t0')).toInt ≤ 200 := by rw [ea]; split <;> omega
    have hmt : (mt row d rm t0' c).toInt = t0'.toInt + (minI (milkF row d c) (rm - t0')).toInt := by rw [i1]; exact ta (by omega) (by omega)
    have hmp : (mp row d rm t0' c).toInt = (milkF row d c).toInt - (minI (milkF row d c) (rm - t0')).toInt := by rw [i2]; exact ts (by omega) (by omega)
    have hy : (rm - mt row d rm t0' c).toInt = rm.toInt - (mt row d rm t0' c).toInt := by
      refine ts ?_ ?_ <;> rw [hmt] <;> omega
    have ec : (minI (milkC (row c) d) (rm - mt row d rm t0' c)).toInt = if rm.toInt - (mt row d rm t0' c).toInt < (milkC (row c) d).toInt then rm.toInt - (mt row d rm t0' c).toInt else (milkC (row c) d).toInt := by rw [minI_i, hy]
    have rb : 0 ≤ (minI (milkF row d (c + 1)) (rm - t0')).toInt ∧ (minI (milkF row d (c + 1)) (rm - t0')).toInt ≤ 200 := by rw [eb]; split <;> omega
    have rc : (minI (milkC (row c) d) (rm - mt row d rm t0' c)).toInt = (minI (milkF row d (c + 1)) (rm - t0')).toInt - (minI (milkF row d c) (rm - t0')).toInt := by
      rw [ec, eb, hmt, ea]
      repeat' split
      all_goals omega
    constructor
    · have hA : (mt row d rm t0' c + minI (milkC (row c) d) (rm - mt row d rm t0' c)).toInt = (mt row d rm t0' c).toInt + (minI (milkC (row c) d) (rm - mt row d rm t0' c)).toInt := ta (by omega) (by omega)
      have hB : (t0' + minI (milkF row d (c + 1)) (rm - t0')).toInt = t0'.toInt + (minI (milkF row d (c + 1)) (rm - t0')).toInt := ta (by omega) (by omega)
      rw [te, mt, hA, hB]
      omega
    · have hz : (milkC (row c) d - minI (milkC (row c) d) (rm - mt row d rm t0' c)).toInt = (milkC (row c) d).toInt - (minI (milkC (row c) d) (rm - mt row d rm t0' c)).toInt := ts (by omega) (by omega)
      have hA : (mp row d rm t0' c + (milkC (row c) d - minI (milkC (row c) d) (rm - mt row d rm t0' c))).toInt = (mp row d rm t0' c).toInt + (milkC (row c) d - minI (milkC (row c) d) (rm - mt row d rm t0' c)).toInt := ta (by omega) (by omega)
      have hB : (milkF row d (c + 1) - minI (milkF row d (c + 1)) (rm - t0')).toInt = (milkF row d (c + 1)).toInt - (minI (milkF row d (c + 1)) (rm - t0')).toInt := ts (by omega) (by omega)
      rw [te, mp, hA, hB]
      omega
theorem mt_cg {row row' : Nat → Int32} {d rm t0' : Int32} : ∀ {c : Nat}, (∀ i, i < c → row i = row' i) → mt row d rm t0' c = mt row' d rm t0' c ∧ mp row d rm t0' c = mp row' d rm t0' c
  | 0, _ => ⟨rfl, rfl⟩
  | c + 1, h => by
    obtain ⟨h1, h2⟩ := mt_cg (d := d) (rm := rm) (t0' := t0') (c := c) (fun i hi => h i (by omega))
    rw [mt, mp, mt, mp, h1, h2, h c (by omega)]
    exact ⟨rfl, rfl⟩
theorem milkF_e (F : RelF nf rooms tanks bests cows bst) {j : Nat} (hj : j < 6) {d : Int32} {c : Nat} (hc : c ≤ 5) : milkF (bst j) d c = milkF (brow bests j) d c :=
  sI_congr (fun _ _ => rfl) (fun i hi _ => by rw [F.2.1 j hj i (by omega)]; rfl)
/-- one day -/
theorem rf_day {cw : Nat → Nat} (hn : nf ≤ 6) (hB : ∀ j, j < 6 → ∀ c, c < 5 → bst j c = bests (5 * j + c)) (hC : ∀ j, j < 6 → cw j ≤ 5 ∧ ∀ c, c < cw j → 5 ≤ (bst j c).toInt ∧ (bst j c).toInt ≤ 30) (hT : ∀ j, j < 6 → 0 ≤ (tanks j).toInt ∧ (tanks j).toInt ≤ if j < nf then (rooms j).toInt else 0) (hR : ∀ j, j < nf → (rooms j).toInt ≤ 200) {d : Int32} {k : Nat} (hd : d = nI k) (hk : k ≤ 999) :
    tkM rooms tanks bests cw d nf = tkF rooms tanks bst cw d nf ∧ poM rooms tanks bests cw d nf = poF rooms tanks bst cw d nf ∧ (∀ j, j < 6 → 0 ≤ (tkF rooms tanks bst cw d nf j).toInt ∧ (tkF rooms tanks bst cw d nf j).toInt ≤ if j < nf then (rooms j).toInt else 0) := by
  have key : ∀ j, j < nf → mt (brow bests j) d (rooms j) (tanks j) (cw j) = tanks j + kpt rooms tanks bst cw d j ∧ mp (brow bests j) d (rooms j) (tanks j) (cw j) = milkF (bst j) d (cw j) - kpt rooms tanks bst cw d j := by
    intro j hj
    have hc := hC j (by omega)
    have ht := hT j (by omega)
    rw [if_pos hj] at ht
    have h := mt_e (row := bst j) hd hk ht.1 ht.2 (hR j hj) hc.1 hc.2
    have h2 := mt_cg (row := brow bests j) (row' := bst j) (d := d) (rm := rooms j) (t0' := tanks j) (c := cw j) (fun i hi => (hB j (by omega) i (by omega)).symm)
    rw [h2.1, h2.2]
    exact h
  refine ⟨?_, ?_, fun j hj => ?_⟩
  · funext j
    rw [tkM, tkF, wr, wr]
    by_cases h : j < nf
    · simp only [h, and_self, if_true]
      exact (key j h).1
    · simp [h]
  · exact sI_congr (fun _ _ => rfl) (fun j hj _ => (key j hj).2)
  · rw [tkF, wr]
    have ht := hT j hj
    by_cases h : j < nf
    · simp only [h, and_self, if_true] at ht ⊢
      have hc := hC j (by omega)
      have hS := milkF_b (row := bst j) hd hk hc.1 hc.2
      have hx : (rooms j - tanks j).toInt = (rooms j).toInt - (tanks j).toInt := by
        have := hR j h
        exact ts (by omega) (by omega)
      have hr := hR j h
      have e : (kpt rooms tanks bst cw d j).toInt = if (rooms j).toInt - (tanks j).toInt < (milkF (bst j) d (cw j)).toInt then (rooms j).toInt - (tanks j).toInt else (milkF (bst j) d (cw j)).toInt := by rw [kpt, minI_i, hx]
      have hk2 : 0 ≤ (kpt rooms tanks bst cw d j).toInt ∧ (kpt rooms tanks bst cw d j).toInt ≤ (rooms j).toInt - (tanks j).toInt := by rw [e]; split <;> omega
      rw [ta (by omega) (by omega)]
      omega
    · simp only [h, false_and, if_false] at ht ⊢
      exact ht
theorem rf_days {cw : Nat → Nat} {dy : Nat} (hn : nf ≤ 6) (hB : ∀ j, j < 6 → ∀ c, c < 5 → bst j c = bests (5 * j + c)) (hC : ∀ j, j < 6 → cw j ≤ 5 ∧ ∀ c, c < cw j → 5 ≤ (bst j c).toInt ∧ (bst j c).toInt ≤ 30) (hT : ∀ j, j < 6 → 0 ≤ (tanks j).toInt ∧ (tanks j).toInt ≤ if j < nf then (rooms j).toInt else 0) (hR : ∀ j, j < nf → (rooms j).toInt ≤ 200) : ∀ {t : Nat}, dy + t ≤ 999 →
    tkN rooms tanks bests cw dy nf t = tkD rooms tanks bst cw dy nf t ∧ poN rooms tanks bests cw dy nf t = poD rooms tanks bst cw dy nf t ∧ (∀ j, j < 6 → 0 ≤ (tkD rooms tanks bst cw dy nf t j).toInt ∧ (tkD rooms tanks bst cw dy nf t j).toInt ≤ if j < nf then (rooms j).toInt else 0)
  | 0, _ => ⟨rfl, rfl, hT⟩
  | t + 1, h => by
    obtain ⟨i1, i2, i3⟩ := rf_days (dy := dy) hn hB hC hT hR (t := t) (by omega)
    obtain ⟨j1, j2, j3⟩ := rf_day (tanks := tkD rooms tanks bst cw dy nf t) hn hB hC i3 hR (d := nI (dy + t + 1)) rfl (by omega)
    rw [tkN, poN, tkD, poD, i1, i2]
    exact ⟨j1, by rw [j2], j3⟩
theorem rf_pass (F : RelF nf rooms tanks bests cows bst) {dy t : Nat} (h : dy + t ≤ 999) : ∃ cw : Nat → Nat, (∀ i, i < nf → cows i = nI (cw i) ∧ cw i ≤ 5) ∧ tkN rooms tanks bests cw dy nf t = tkD rooms tanks bst cw dy nf t ∧ poN rooms tanks bests cw dy nf t = poD rooms tanks bst cw dy nf t ∧ RelF nf rooms (tkD rooms tanks bst cw dy nf t) bests cows bst := by
  obtain ⟨hn, hB, ⟨cw, hC⟩, hT, hR⟩ := F
  obtain ⟨k1, k2, k3⟩ := rf_days (dy := dy) (t := t) hn hB (fun j hj => (hC j hj).2) hT hR h
  exact ⟨cw, fun i hi => ⟨(hC i (by omega)).1, (hC i (by omega)).2.1⟩, k1, k2, ⟨hn, hB, ⟨cw, hC⟩, k3, hR⟩⟩
end RF
