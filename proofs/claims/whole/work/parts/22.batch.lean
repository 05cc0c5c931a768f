def cnt (ways mark : Nat → Int32) (n i : Nat) : Bool := decide (¬ ways i < 10) && !hsB ways mark (ways i - 10) 45 n
def markOk (mark : Nat → Int32) (i : Nat) : Prop := mark i = 45 ∨ mark i = 97 ∨ mark i = 98 ∨ mark i = 99 ∨ mark i = 120
section BT
variable {nv nb n b : Nat} {amount mark place number ways : Nat → Int32}
theorem hs_b (hW : ∀ i, i < n → wayOk place number ways nv nb i) (hnv : nv ≤ 4) (hnb : nb ≤ 20) (hb : b ≤ 20) (g : Int32) : hsB ways mark (nI b) g n = eB (fun i => decide (mark i = g) && cIn place number 98 (nI b) i) n := by
  refine eB_congr fun i hi => ?_
  rw [way_b (hW i hi) hnv hnb hb, Bool.and_comm]
theorem spl_e (hW : ∀ i, i < n → wayOk place number ways nv nb i) (hnv : nv ≤ 4) (hnb : nb ≤ 20) (hb : b ≤ 20) : spl mark place number amount (nI b) n = sI (fun i => decide (ways i = 10 + nI b) && decide (mark i = 120)) amount n := by
  refine sI_congr (fun i hi => ?_) (fun _ _ _ => rfl)
  rw [cSp, way_b (hW i hi) hnv hnb hb, Bool.and_comm]
theorem spl_h (hW : ∀ i, i < n → wayOk place number ways nv nb i) (hA : ∀ i, i < n → 1 ≤ (amount i).toInt ∧ (amount i).toInt ≤ 400) (hnv : nv ≤ 4) (hnb : nb ≤ 20) (hn : n ≤ 100) (hb : b ≤ 20) : 0 < spl mark place number amount (nI b) n ↔ hsB ways mark (nI b) 120 n = true := by
  rw [spl_e hW hnv hnb hb, sI_pos (M := 400) (by omega) (by omega) (fun i hi => ⟨by have := hA i hi; omega, (hA i hi).2⟩), hsB, eB_iff]
theorem gr_h (hW : ∀ i, i < n → wayOk place number ways nv nb i) (hnv : nv ≤ 4) (hnb : nb ≤ 20) (hb : b ≤ 20) : grB mark place number (nI b) n = !hsB ways mark (nI b) 45 n := by
  rw [hs_b hW hnv hnb hb, Bool.eq_iff_iff, Bool.not_eq_true', ← Bool.not_eq_true, eB_iff, grB, aB_iff]
  constructor
  · rintro h ⟨i, hi, q⟩
    have := h i hi
    simp only [cUn, q] at this
    cases this
  · intro h i hi
    rw [cUn]
    cases hq : (decide (mark i = 45) && cIn place number 98 (nI b) i) with
    | false => rfl
    | true => exact absurd ⟨i, hi, hq⟩ h
theorem st_e (hW : ∀ i, i < n → wayOk place number ways nv nb i) (hA : ∀ i, i < n → 1 ≤ (amount i).toInt ∧ (amount i).toInt ≤ 400) (hnv : nv ≤ 4) (hnb : nb ≤ 20) (hn : n ≤ 100) (hb : b ≤ 20) : stO mark place number amount (nI b) n = stM ways mark (nI b) n := by
  rw [stO, stM, gr_h hW hnv hnb hb]
  simp only [spl_h hW hA hnv hnb hn hb]
  split
  · rfl
  · cases hsB ways mark (nI b) 45 n <;> rfl
theorem val_e (hW : ∀ i, i < n → wayOk place number ways nv nb i) (hnv : nv ≤ 4) (hnb : nb ≤ 20) (hb : b ≤ 20) : valB mark place number amount (nI b) n = sI (fun i => decide (ways i = 10 + nI b)) (fun i => cents (mark i) * amount i) n :=
  sI_congr (fun i hi => way_b (hW i hi) hnv hnb hb) (fun i _ _ => Int32.mul_comm _ _)
theorem loss_e (hW : ∀ i, i < n → wayOk place number ways nv nb i) (hA : ∀ i, i < n → 1 ≤ (amount i).toInt ∧ (amount i).toInt ≤ 400) (hnv : nv ≤ 4) (hnb : nb ≤ 20) (hn : n ≤ 100) (hb : b ≤ 20) : lossB mark place number amount (nI b) n = losM ways mark amount (nI b) n := by
  rw [lossB, losM, val_e hW hnv hnb hb]
  simp only [spl_h hW hA hnv hnb hn hb]
theorem sI_0 {p : Nat → Bool} {f : Nat → Int32} : ∀ {n : Nat}, (∀ i, i < n → p i = true → f i = 0) → sI p f n = 0
  | 0, _ => rfl
  | n + 1, h => by
    rw [sI, sI_0 (fun i hi => h i (by omega))]
    cases hp : p n with
    | false => rfl
    | true => rw [h n (by omega) hp]; rfl
theorem pay_e (hW : ∀ i, i < n → wayOk place number ways nv nb i) (hA : ∀ i, i < n → 1 ≤ (amount i).toInt ∧ (amount i).toInt ≤ 400) (hnv : nv ≤ 4) (hnb : nb ≤ 20) (hn : n ≤ 100) (hb : b ≤ 20) : payB mark place number amount (nI b) n = sI (fun i => decide (ways i = 10 + nI b)) (fun i => payM ways mark amount n i) n := by
  rw [payB, val_e hW hnv hnb hb]
  simp only [spl_h hW hA hnv hnb hn hb]
  split
  · rename_i h
    refine (sI_0 fun i hi q => ?_).symm
    rw [payM, of_decide_eq_true q, tb10 hb, if_pos (Or.inr h)]
  · rename_i h
    refine sI_congr (fun _ _ => rfl) fun i hi q => ?_
    rw [payM, of_decide_eq_true q, tb10 hb, if_neg]
    rintro (w | w)
    · exact tb_ge hb w
    · exact h w
theorem sh_congr {p q : Nat → Bool} {ix : Int32} : ∀ {n : Nat}, (∀ i, i < n → p i = q i) → sh p ix n = sh q ix n
  | 0, _ => rfl
  | n + 1, h => by rw [sh, sh, sh_congr (fun i hi => h i (by omega)), h n (by omega), sI_congr (q := q) (fun i hi => h i (by omega)) (fun _ _ _ => rfl)]
theorem sh_e (hW : ∀ i, i < n → wayOk place number ways nv nb i) (hnv : nv ≤ 4) (hnb : nb ≤ 20) (hb : b ≤ 20) (ix : Int32) : sh (cIn place number 98 (nI b)) ix n = sh (fun i => decide (ways i = 10 + nI b)) ix n := sh_congr fun i hi => way_b (hW i hi) hnv hnb hb
theorem sh_c {p : Nat → Bool} {ix : Int32} : ∀ {n : Nat}, n ≤ 100 → sh p ix n = -1 ∨ ∃ j, j < n ∧ sh p ix n = nI j
  | 0, _ => Or.inl rfl
  | n + 1, h => by
    rw [sh]
    split
    · split
      · exact Or.inr ⟨n, by omega, rfl⟩
      · exact Or.inl rfl
    · rcases sh_c (p := p) (ix := ix) (n := n) (by omega) with q | ⟨j, q1, q2⟩
      · exact Or.inl q
      · exact Or.inr ⟨j, by omega, q2⟩
theorem sh_neg {p : Nat → Bool} {ix : Int32} (h : n ≤ 100) : 0 ≤ sh p ix n ↔ ¬ sh p ix n = -1 := by
  rcases sh_c (p := p) (ix := ix) h with q | ⟨j, q1, q2⟩
  · rw [q]; decide
  · rw [q2, tle, te, t0, tm1, tn (by omega)]; omega
/-! cents -/
theorem cents_b (g : Int32) : 0 ≤ (cents g).toInt ∧ (cents g).toInt ≤ 40 := by
  unfold cents
  split
  · decide
  · split
    · decide
    · split <;> decide
theorem wo_b (hA : ∀ i, i < n → 1 ≤ (amount i).toInt ∧ (amount i).toInt ≤ 400) {i : Nat} (hi : i < n) : 0 ≤ (cents (mark i) * amount i).toInt ∧ (cents (mark i) * amount i).toInt ≤ 16000 := by
  have h1 := cents_b (mark i)
  have h2 := hA i hi
  have h3 : 0 ≤ (cents (mark i)).toInt * (amount i).toInt := Int.mul_nonneg h1.1 (by omega)
  have h4 : (cents (mark i)).toInt * (amount i).toInt ≤ 40 * 400 := Int.mul_le_mul h1.2 h2.2 (by omega) (by omega)
  rw [tm (by omega) (by omega)]
  omega
theorem payM_b (hA : ∀ i, i < n → 1 ≤ (amount i).toInt ∧ (amount i).toInt ≤ 400) {i : Nat} (hi : i < n) : 0 ≤ (payM ways mark amount n i).toInt ∧ (payM ways mark amount n i).toInt ≤ 16000 := by
  rw [payM]
  split
  · decide
  · exact wo_b hA hi
theorem losM_b (hA : ∀ i, i < n → 1 ≤ (amount i).toInt ∧ (amount i).toInt ≤ 400) (hn : n ≤ 100) (g : Int32) : 0 ≤ (losM ways mark amount g n).toInt ∧ (losM ways mark amount g n).toInt ≤ 1600000 := by
  rw [losM]
  split
  · have := sI_b (p := fun zi => decide (ways zi = 10 + g)) (f := fun zi => cents (mark zi) * amount zi) (M := 16000) (by omega) (n := n) (by omega) (fun i hi _ => wo_b hA hi)
    omega
  · decide
theorem spM_ge (hA : ∀ i, i < n → 1 ≤ (amount i).toInt ∧ (amount i).toInt ≤ 400) (hn : n ≤ 100) {j : Nat} (hj : j < n) (hm : mark j = 120) : (amount j).toInt ≤ (spM ways mark amount n j).toInt ∧ (spM ways mark amount n j).toInt ≤ 40000 := by
  have hb : ∀ i, i < n → (decide (ways i = ways j) && decide (mark i = 120)) = true → 0 ≤ (amount i).toInt ∧ (amount i).toInt ≤ 400 := fun i hi _ => ⟨by have := hA i hi; omega, (hA i hi).2⟩
  rw [spM, sI_Z (M := 400) (by omega) (by omega) hb]
  have h1 := sZ_nn (M := 400) (by omega) hb
  refine ⟨?_, by omega⟩
  have key : ∀ m, m ≤ n → (0 ≤ sZ (fun zi => decide (ways zi = ways j) && decide (mark zi = 120)) (fun i => (amount i).toInt) m) ∧ (j < m → (amount j).toInt ≤ sZ (fun zi => decide (ways zi = ways j) && decide (mark zi = 120)) (fun i => (amount i).toInt) m) := by
    intro m
    induction m with
    | zero => intro _; exact ⟨by simp [sZ], fun h => absurd h (Nat.not_lt_zero _)⟩
    | succ m ih =>
      intro hm'
      have ih := ih (by omega)
      have ha := hA m (by omega)
      rw [sZ]
      by_cases e : m = j
      · subst e
        simp only [hm, decide_true, Bool.and_self, if_true]
        exact ⟨by omega, fun _ => by omega⟩
      · refine ⟨?_, fun hjm => ?_⟩
        · split <;> omega
        · have := ih.2 (by omega)
          split <;> omega
  exact (key n (Nat.le_refl _)).2 hj
theorem spM_nz (hA : ∀ i, i < n → 1 ≤ (amount i).toInt ∧ (amount i).toInt ≤ 400) (hn : n ≤ 100) : ∀ i, i < n → ¬ ways i < 10 → mark i = 120 → ¬ spM ways mark amount n i = 0 := by
  intro i hi _ hm q
  have h1 := spM_ge (ways := ways) hA hn hi hm
  have h2 := hA i hi
  rw [q, t0] at h1
  omega
end BT
