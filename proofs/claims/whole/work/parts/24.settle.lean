def hsP (B : Nat → Bool) (mark : Nat → Int32) (g : Int32) (n : Nat) : Bool := eB (fun i => B i && decide (mark i = g)) n
def pyP (B : Nat → Bool) (mark amount : Nat → Int32) (n j : Nat) : Int32 := if hsP B mark 120 n = true then 0 else cents (mark j) * amount j
def loP (B : Nat → Bool) (mark amount : Nat → Int32) (n : Nat) : Int32 := if hsP B mark 120 n = true then sI B (fun i => cents (mark i) * amount i) n else 0
def sxP (B : Nat → Bool) (mark : Nat → Int32) (i : Nat) : Bool := B i && decide (mark i = 120)
def spP (B : Nat → Bool) (mark amount : Nat → Int32) (n : Nat) : Int32 := sI (sxP B mark) amount n
def lfP (B : Nat → Bool) (mark amount : Nat → Int32) (n : Nat) : Int32 := loP B mark amount n - sI (sxP B mark) (fun i => loP B mark amount n * amount i / spP B mark amount n) n
def bmP (B : Nat → Bool) (mark amount : Nat → Int32) (n j : Nat) : Int32 := if mark j = 120 then loP B mark amount n * amount j / spP B mark amount n + (if sI (sxP B mark) (fun _ => 1) j < lfP B mark amount n then 1 else 0) else 0
theorem cut_e {p : Nat → Bool} {f : Nat → Int32} {j : Nat} : ∀ {n : Nat}, j ≤ n → sI (fun i => p i && decide (i < j)) f n = sI p f j
  | 0, h => by rw [show j = 0 by omega]; rfl
  | n + 1, h => by
    rcases Nat.lt_or_ge j (n + 1) with h1 | h1
    · rw [sI, cut_e (n := n) (by omega), decide_eq_false (show ¬ n < j by omega), Bool.and_false]
      exact Int32.add_zero _
    · rw [show j = n + 1 by omega]
      exact sI_congr (fun i hi => by rw [decide_eq_true hi, Bool.and_true]) (fun _ _ _ => rfl)
section PB
variable {n c : Nat} {amount mark ways : Nat → Int32}
theorem payM_P {j : Nat} (hc : c ≤ 20) (hj : ways j = 10 + nI c) : payM ways mark amount n j = pyP (fun i => decide (ways i = 10 + nI c)) mark amount n j := by
  rw [payM, hj, tb10 hc, pyP, hsP, hsB]
  by_cases h : eB (fun zi => decide (ways zi = 10 + nI c) && decide (mark zi = 120)) n = true
  · rw [if_pos (Or.inr h), if_pos h]
  · rw [if_neg (fun q => q.elim (tb_ge hc) h), if_neg h]
theorem losM_P : losM ways mark amount (nI c) n = loP (fun i => decide (ways i = 10 + nI c)) mark amount n := rfl
theorem cnt_P {j : Nat} (hc : c ≤ 20) (hj : ways j = 10 + nI c) : cnt ways mark n j = !hsP (fun i => decide (ways i = 10 + nI c)) mark 45 n := by
  rw [cnt, hj, tb10 hc, decide_eq_true (tb_ge hc), Bool.true_and]
  rfl
theorem cnt_no {j : Nat} (h : ways j < 10) : cnt ways mark n j = false := by rw [cnt, decide_eq_false (fun q => q h), Bool.false_and]
theorem blM_P {j : Nat} (hc : c ≤ 20) (hj : ways j = 10 + nI c) (hjn : j < n) : blM ways mark amount n j = bmP (fun i => decide (ways i = 10 + nI c)) mark amount n j := by
  rw [blM, bmP]
  by_cases hm : mark j = 120
  · rw [if_neg (fun q => q.elim (fun w => tb_ge hc (hj ▸ w)) (fun w => w hm)), if_pos hm]
    have e1 : ahM ways mark j n = sI (sxP (fun i => decide (ways i = 10 + nI c)) mark) (fun _ => 1) j := by
      rw [ahM, hj]
      exact cut_e (by omega)
    have e2 : lfM ways mark amount n j n = lfP (fun i => decide (ways i = 10 + nI c)) mark amount n := by
      rw [lfM, spM, hj, tb10 hc]
      rfl
    rw [e1, e2, spM, hj, tb10 hc]
    rfl
  · rw [if_pos (Or.inr hm), if_neg hm]
/-! the same batch in another list of ways -/
theorem hsP_cg {B B' : Nat → Bool} {mark' : Nat → Int32} {g : Int32} (hB : ∀ i, i < n → B' i = B i) (hm : ∀ i, i < n → B i = true → mark' i = mark i) : hsP B' mark' g n = hsP B mark g n := eB_congr fun i hi => by
  rw [hB i hi]
  cases hb : B i with
  | false => rfl
  | true => rw [hm i hi hb]
theorem pyP_cg {B B' : Nat → Bool} {mark' amount' : Nat → Int32} {j : Nat} (hB : ∀ i, i < n → B' i = B i) (hm : ∀ i, i < n → B i = true → mark' i = mark i) (ha : ∀ i, i < n → amount' i = amount i) (hj : j < n) (hjb : B j = true) : pyP B' mark' amount' n j = pyP B mark amount n j := by
  rw [pyP, pyP, hsP_cg hB hm, hm j hj hjb, ha j hj]
theorem sxP_cg {B B' : Nat → Bool} {mark' : Nat → Int32} (hB : ∀ i, i < n → B' i = B i) (hm : ∀ i, i < n → B i = true → mark' i = mark i) : ∀ i, i < n → sxP B' mark' i = sxP B mark i := by
  intro i hi
  rw [sxP, sxP, hB i hi]
  cases hb : B i with
  | false => rfl
  | true => rw [hm i hi hb]
theorem loP_cg {B B' : Nat → Bool} {mark' amount' : Nat → Int32} (hB : ∀ i, i < n → B' i = B i) (hm : ∀ i, i < n → B i = true → mark' i = mark i) (ha : ∀ i, i < n → amount' i = amount i) : loP B' mark' amount' n = loP B mark amount n := by
  rw [loP, loP, hsP_cg hB hm, sI_congr (q := B) (g := fun i => cents (mark i) * amount i) hB (fun i hi q => by rw [hm i hi q, ha i hi])]
theorem bmP_cg {B B' : Nat → Bool} {mark' amount' : Nat → Int32} {j : Nat} (hB : ∀ i, i < n → B' i = B i) (hm : ∀ i, i < n → B i = true → mark' i = mark i) (ha : ∀ i, i < n → amount' i = amount i) (hj : j < n) (hjb : B j = true) : bmP B' mark' amount' n j = bmP B mark amount n j := by
  have h1 := sxP_cg (n := n) hB hm
  have h2 := loP_cg (n := n) hB hm ha
  have h3 : spP B' mark' amount' n = spP B mark amount n := sI_congr h1 (fun i hi _ => ha i hi)
  have h4 : lfP B' mark' amount' n = lfP B mark amount n := by
    rw [lfP, lfP, h2, h3]
    exact congrArg _ (sI_congr h1 (fun i hi _ => by rw [ha i hi]))
  rw [bmP, bmP, h2, h3, h4, hm j hj hjb, ha j hj, sI_congr (q := sxP B mark) (g := fun _ => 1) (fun i hi => h1 i (by omega)) (fun _ _ _ => rfl)]
/-! one more sample, not of the batch -/
theorem hsP_1 {B : Nat → Bool} {g : Int32} (h : B n = false) : hsP B mark g (n + 1) = hsP B mark g n := by
  show (eB _ n || (B n && _)) = _
  rw [h, Bool.false_and, Bool.or_false]
  rfl
theorem sI_1 {p : Nat → Bool} {f : Nat → Int32} (h : p n = false) : sI p f (n + 1) = sI p f n := (sI_f h).symm
theorem sx_1 {B : Nat → Bool} (h : B n = false) : sxP B mark n = false := by rw [sxP, h, Bool.false_and]
theorem pyP_1 {B : Nat → Bool} {j : Nat} (h : B n = false) : pyP B mark amount (n + 1) j = pyP B mark amount n j := by rw [pyP, pyP, hsP_1 h]
theorem loP_1 {B : Nat → Bool} (h : B n = false) : loP B mark amount (n + 1) = loP B mark amount n := by rw [loP, loP, hsP_1 h, sI_1 h]
theorem bmP_1 {B : Nat → Bool} {j : Nat} (h : B n = false) : bmP B mark amount (n + 1) j = bmP B mark amount n j := by
  have h3 : spP B mark amount (n + 1) = spP B mark amount n := sI_1 (sx_1 h)
  have h4 : lfP B mark amount (n + 1) = lfP B mark amount n := by rw [lfP, lfP, loP_1 h, h3, sI_1 (sx_1 h)]
  rw [bmP, bmP, loP_1 h, h3, h4]
/-! the class's countdown -/
theorem one_b {p : Nat → Bool} {j : Nat} (hj : j ≤ 100) : 0 ≤ (sI p (fun _ => 1) j).toInt ∧ (sI p (fun _ => 1) j).toInt ≤ j := by
  have := sI_b (p := p) (f := fun _ => 1) (M := 1) (n := j) (by omega) (by omega) (fun _ _ _ => by rw [t1]; omega)
  omega
theorem lf_a {p : Nat → Bool} {L0 : Int32} : ∀ {j : Nat}, j ≤ 100 → (sI p (fun _ => 1) j < L0 → (lf p L0 j).toInt = L0.toInt - (sI p (fun _ => 1) j).toInt) ∧ (¬ sI p (fun _ => 1) j < L0 → (lf p L0 j).toInt ≤ 0)
  | 0, _ => by
    refine ⟨fun _ => ?_, fun h => ?_⟩
    · show L0.toInt = L0.toInt - (0 : Int32).toInt
      rw [t0]; omega
    · show L0.toInt ≤ 0
      have h : ¬ (0 : Int32) < L0 := h
      rw [tlt, t0] at h; omega
  | j + 1, hj => by
    have ih := lf_a (p := p) (L0 := L0) (j := j) (by omega)
    have hb := one_b (p := p) (j := j) (by omega)
    have hL := fb_rng0 L0
    simp only [tlt] at ih ⊢
    rw [lf, sI]
    cases hp : p j with
    | false =>
      simp only [Bool.false_eq_true, if_false, false_and]
      rw [show sI p (fun _ => 1) j + 0 = sI p (fun _ => 1) j from Int32.add_zero _]
      exact ih
    | true =>
      simp only [if_true, true_and]
      have h1 : (sI p (fun _ => 1) j + 1).toInt = (sI p (fun _ => 1) j).toInt + 1 := by rw [ta] <;> rw [t1] <;> omega
      rw [h1]
      by_cases hq : (sI p (fun _ => 1) j).toInt < L0.toInt
      · have h2 := ih.1 hq
        rw [if_pos (show (0 : Int32) < lf p L0 j by rw [tlt, t0]; omega)]
        have h3 : (lf p L0 j + -1).toInt = (lf p L0 j).toInt + -1 := by rw [ta] <;> rw [tm1] <;> omega
        rw [h3]
        exact ⟨fun _ => by omega, fun _ => by omega⟩
      · have h2 := ih.2 hq
        rw [if_neg (show ¬ (0 : Int32) < lf p L0 j by rw [tlt, t0]; omega)]
        exact ⟨fun _ => by omega, fun _ => h2⟩
theorem lf_pos {p : Nat → Bool} {L0 : Int32} {j : Nat} (hj : j ≤ 100) : 0 < lf p L0 j ↔ sI p (fun _ => 1) j < L0 := by
  have h := lf_a (p := p) (L0 := L0) hj
  by_cases q : sI p (fun _ => 1) j < L0
  · have h1 := h.1 q
    refine ⟨fun _ => q, fun _ => ?_⟩
    rw [tlt] at q
    rw [tlt, t0]; omega
  · have h1 := h.2 q
    refine ⟨fun w => ?_, fun w => absurd w q⟩
    rw [tlt, t0] at w; omega
end PB
section ST
variable {nv nb n c : Nat} {amount mark place number ways : Nat → Int32}
/-- what the class's settling leaves as a sample's pay -/
theorem stP_e {paid : Nat → Int32} (hW : ∀ i, i < n → wayOk place number ways nv nb i) (hA : ∀ i, i < n → 1 ≤ (amount i).toInt ∧ (amount i).toInt ≤ 400) (hnv : nv ≤ 4) (hnb : nb ≤ 20) (hn : n ≤ 100) (hc : c ≤ 20) (h0 : ∀ i, i < n → ways i = 10 + nI c → paid i = 0) (j : Nat) :
    stP mark place number amount paid (nI c) n j = if j < n ∧ ways j = 10 + nI c then (if hsP (fun i => decide (ways i = 10 + nI c)) mark 45 n = true then 0 else pyP (fun i => decide (ways i = 10 + nI c)) mark amount n j) else paid j := by
  have e1 : hsB ways mark (nI c) 45 n = hsP (fun i => decide (ways i = 10 + nI c)) mark 45 n := rfl
  have e2 : hsB ways mark (nI c) 120 n = hsP (fun i => decide (ways i = 10 + nI c)) mark 120 n := rfl
  rw [stP, gr_h hW hnv hnb hc]
  simp only [spl_h hW hA hnv hnb hn hc, e1, e2]
  by_cases hj : j < n ∧ ways j = 10 + nI c
  · rw [if_pos hj]
    have hz := h0 j hj.1 hj.2
    cases h45 : hsP (fun i => decide (ways i = 10 + nI c)) mark 45 n with
    | true => simp [hz]
    | false =>
      cases h120 : hsP (fun i => decide (ways i = 10 + nI c)) mark 120 n with
      | true => simp [hz, pyP, h120]
      | false =>
        have : cIn place number 98 (nI c) j = true := by rw [way_b (hW j hj.1) hnv hnb hc, decide_eq_true hj.2]
        simp [wr, hj.1, this, pyP, h120, Int32.mul_comm]
  · rw [if_neg hj]
    split
    · rw [wr, if_neg]
      rintro ⟨q1, q2⟩
      rw [way_b (hW j q1) hnv hnb hc] at q2
      exact hj ⟨q1, of_decide_eq_true q2⟩
    · rfl
theorem csp_e (hW : ∀ i, i < n → wayOk place number ways nv nb i) (hnv : nv ≤ 4) (hnb : nb ≤ 20) (hc : c ≤ 20) : ∀ i, i < n → cSp mark place number (nI c) i = sxP (fun i => decide (ways i = 10 + nI c)) mark i := by
  intro i hi
  rw [cSp, way_b (hW i hi) hnv hnb hc, sxP, Bool.and_comm]
theorem stB_e {blamed : Nat → Int32} (hW : ∀ i, i < n → wayOk place number ways nv nb i) (hA : ∀ i, i < n → 1 ≤ (amount i).toInt ∧ (amount i).toInt ≤ 400) (hnv : nv ≤ 4) (hnb : nb ≤ 20) (hn : n ≤ 100) (hc : c ≤ 20) (h0 : ∀ i, i < n → ways i = 10 + nI c → blamed i = 0) (j : Nat) :
    stB mark place number amount blamed (nI c) n j = if j < n ∧ ways j = 10 + nI c then (if hsP (fun i => decide (ways i = 10 + nI c)) mark 45 n = true then 0 else bmP (fun i => decide (ways i = 10 + nI c)) mark amount n j) else blamed j := by
  have e1 : hsB ways mark (nI c) 45 n = hsP (fun i => decide (ways i = 10 + nI c)) mark 45 n := rfl
  have e2 : hsB ways mark (nI c) 120 n = hsP (fun i => decide (ways i = 10 + nI c)) mark 120 n := rfl
  have e3 : ∀ i, i < n → cSp mark place number (nI c) i = sxP (fun i => decide (ways i = 10 + nI c)) mark i := csp_e hW hnv hnb hc
  have e4 : spl mark place number amount (nI c) n = spP (fun i => decide (ways i = 10 + nI c)) mark amount n := sI_congr e3 (fun _ _ _ => rfl)
  have hcond : (0 < spl mark place number amount (nI c) n) = (hsP (fun i => decide (ways i = 10 + nI c)) mark 120 n = true) := propext (by rw [spl_h hW hA hnv hnb hn hc, e2])
  rw [stB, gr_h hW hnv hnb hc]
  simp only [hcond, e1]
  by_cases hj : j < n ∧ ways j = 10 + nI c
  · rw [if_pos hj]
    have hz := h0 j hj.1 hj.2
    cases h45 : hsP (fun i => decide (ways i = 10 + nI c)) mark 45 n with
    | true => simp [hz]
    | false =>
      cases h120 : hsP (fun i => decide (ways i = 10 + nI c)) mark 120 n with
      | false =>
        have hm : ¬ mark j = 120 := by
          intro q
          have h9 : hsP (fun i => decide (ways i = 10 + nI c)) mark 120 n = true := eB_iff.mpr ⟨j, hj.1, by simp [hj.2, q]⟩
          rw [h120] at h9
          cases h9
        simp [hz, bmP, hm]
      | true =>
        have e5 : valB mark place number amount (nI c) n = loP (fun i => decide (ways i = 10 + nI c)) mark amount n := by
          rw [loP, if_pos h120]
          exact val_e hW hnv hnb hc
        have hs : sxP (fun i => decide (ways i = 10 + nI c)) mark j = decide (mark j = 120) := by rw [sxP, decide_eq_true hj.2, Bool.true_and]
        have hl : lft mark place number amount (nI c) (spP (fun i => decide (ways i = 10 + nI c)) mark amount n) (loP (fun i => decide (ways i = 10 + nI c)) mark amount n) n = lfP (fun i => decide (ways i = 10 + nI c)) mark amount n := by
          rw [lft, lfP]
          exact congrArg _ (sI_congr e3 (fun _ _ _ => rfl))
        have hpl : pl (cSp mark place number (nI c)) (lfP (fun i => decide (ways i = 10 + nI c)) mark amount n) j = (decide (mark j = 120) && decide (sI (sxP (fun i => decide (ways i = 10 + nI c)) mark) (fun _ => 1) j < lfP (fun i => decide (ways i = 10 + nI c)) mark amount n)) := by
          rw [pl, e3 j hj.1, hs]
          congr 1
          rw [Bool.eq_iff_iff, decide_eq_true_eq, decide_eq_true_eq, lf_pos (by omega), sI_congr (q := sxP (fun i => decide (ways i = 10 + nI c)) mark) (g := fun _ => 1) (fun i hi => e3 i (by omega)) (fun _ _ _ => rfl)]
        simp only [Bool.not_false, and_self, if_true, Bool.false_eq_true, if_false, bl2, e4, e5, hl]
        rw [wr]
        have hb1 : bl1 mark place number amount blamed (nI c) (spP (fun i => decide (ways i = 10 + nI c)) mark amount n) (loP (fun i => decide (ways i = 10 + nI c)) mark amount n) n j = if mark j = 120 then loP (fun i => decide (ways i = 10 + nI c)) mark amount n * amount j / spP (fun i => decide (ways i = 10 + nI c)) mark amount n else 0 := by
          rw [bl1, wr, e3 j hj.1, hs, hz]
          simp [hj.1]
        simp only [hj.1, true_and, hpl, hb1, bmP]
        by_cases hm : mark j = 120
        · simp only [hm, decide_true, Bool.true_and, decide_eq_true_eq, if_true]
          split
          · rfl
          · exact (Int32.add_zero _).symm
        · simp [hm]
  · rw [if_neg hj]
    have hnc : j < n → cSp mark place number (nI c) j = false := by
      intro q1
      rw [e3 j q1, sxP, decide_eq_false (fun q => hj ⟨q1, q⟩), Bool.false_and]
    split
    · rw [bl2, wr, if_neg]
      · rw [bl1, wr, if_neg]
        rintro ⟨q1, q2⟩
        rw [hnc q1] at q2
        cases q2
      · rintro ⟨q1, q2⟩
        rw [pl, hnc q1] at q2
        cases q2
    · rfl
end ST
