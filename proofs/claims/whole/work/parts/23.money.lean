theorem tL (x : Int32) : x.toInt64.toInt = x.toInt := Int32.toInt_toInt64 x
theorem aL {x y : Int64} (h1 : -9223372036854775808 ≤ x.toInt + y.toInt) (h2 : x.toInt + y.toInt < 9223372036854775808) : (x + y).toInt = x.toInt + y.toInt := by
  rw [Int64.toInt_add, Int.bmod_def]
  split <;> omega
theorem sLt {x y : Int64} (h1 : -9223372036854775808 ≤ x.toInt - y.toInt) (h2 : x.toInt - y.toInt < 9223372036854775808) : (x - y).toInt = x.toInt - y.toInt := by
  rw [Int64.toInt_sub, Int.bmod_def]
  split <;> omega
theorem eL {x y : Int64} : x = y ↔ x.toInt = y.toInt := Int64.toInt_inj.symm
theorem t0L : (0 : Int64).toInt = 0 := by decide
theorem sZ_cg {p q : Nat → Bool} {f g : Nat → Int} : ∀ {n : Nat}, (∀ i, i < n → (if p i = true then f i else 0) = (if q i = true then g i else 0)) → sZ p f n = sZ q g n
  | 0, _ => rfl
  | n + 1, h => by rw [sZ, sZ, sZ_cg (fun i hi => h i (by omega)), h n (by omega)]
theorem sZ_add {p : Nat → Bool} {f g : Nat → Int} : ∀ n : Nat, sZ p (fun i => f i + g i) n = sZ p f n + sZ p g n
  | 0 => rfl
  | n + 1 => by
    rw [sZ, sZ, sZ, sZ_add n]
    split <;> omega
theorem sZ_sub {p : Nat → Bool} {f g : Nat → Int} : ∀ n : Nat, sZ p (fun i => f i - g i) n = sZ p f n - sZ p g n
  | 0 => rfl
  | n + 1 => by
    rw [sZ, sZ, sZ, sZ_sub n]
    split <;> omega
theorem sZ_z {p : Nat → Bool} {f : Nat → Int} : ∀ {n : Nat}, (∀ i, i < n → p i = true → f i = 0) → sZ p f n = 0
  | 0, _ => rfl
  | n + 1, h => by
    rw [sZ, sZ_z (fun i hi => h i (by omega))]
    split
    · rename_i q
      rw [h n (by omega) q]; rfl
    · rfl
theorem sZ_one {p : Nat → Bool} {b0 : Nat} {x : Int} : ∀ {n : Nat}, b0 < n → sZ p (fun b => if b = b0 then x else 0) n = if p b0 = true then x else 0
  | 0, h => absurd h (Nat.not_lt_zero _)
  | n + 1, h => by
    rw [sZ]
    by_cases e : n = b0
    · subst e
      rw [sZ_z (fun i hi _ => if_neg (by omega)), if_pos rfl, Int.zero_add]
    · rw [sZ_one (n := n) (by omega), if_neg e]
      split <;> split <;> omega
theorem sL_Z {p : Nat → Bool} {f : Nat → Int64} {M : Int} (hM : 0 ≤ M) : ∀ {n : Nat}, n * M < 9223372036854775808 → (∀ i, i < n → p i = true → 0 ≤ (f i).toInt ∧ (f i).toInt ≤ M) → (sL p f n).toInt = sZ p (fun i => (f i).toInt) n
  | 0, _, _ => by simp [sL, sZ]
  | n + 1, hn, h => by
    have hd : ((n + 1 : Nat) : Int) * M = n * M + M := by rw [Int.natCast_succ, Int.add_mul, Int.one_mul]
    rw [hd] at hn
    have ih := sL_Z hM (p := p) (f := f) (n := n) (by omega) (fun i hi => h i (by omega))
    have hb := sZ_nn hM (p := p) (f := fun i => (f i).toInt) (n := n) (fun i hi => h i (by omega))
    rw [sL, sZ]
    cases hp : p n with
    | false =>
      simp only [Bool.false_eq_true, if_false]
      rw [aL] <;> rw [ih, t0L] <;> omega
    | true =>
      have := h n (by omega) hp
      simp only [if_true]
      rw [aL] <;> rw [ih] <;> omega
section GR
variable {nv nb n : Nat} {amount mark place number ways : Nat → Int32}
theorem sZ_grp {q Pb PP : Nat → Bool} {F : Nat → Int} (hnv : nv ≤ 4) (hnb : nb ≤ 20) : ∀ {m : Nat}, (∀ i, i < m → wayOk place number ways nv nb i) → (∀ i, i < m → ∀ b, b < nb → ways i = 10 + nI b → PP i = Pb b) → (∀ i, i < m → ways i < 10 → PP i = false) → sZ Pb (fun b => sZ (fun i => q i && cIn place number 98 (nI b) i) F m) nb = sZ (fun i => q i && PP i) F m
  | 0, _, _, _ => sZ_z (fun _ _ _ => rfl)
  | m + 1, hW, h1, h2 => by
    have ih := sZ_grp (q := q) (F := F) hnv hnb (m := m) (fun i hi => hW i (by omega)) (fun i hi => h1 i (by omega)) (fun i hi => h2 i (by omega))
    simp only [sZ]
    rw [sZ_add, ih]
    congr 1
    show sZ Pb (fun b => if (q m && cIn place number 98 (nI b) m) = true then F m else 0) nb = if (q m && PP m) = true then F m else 0
    have hw := hW m (by omega)
    have e1 : ∀ b, b < nb → cIn place number 98 (nI b) m = decide (ways m = 10 + nI b) := fun b hb => way_b hw hnv hnb (by omega)
    rcases hw with ⟨w, -, -⟩ | ⟨v, hv, w, -, -⟩ | ⟨b0, hb0, w, -, -⟩
    · rw [h2 m (by omega) (by rw [w]; decide), Bool.and_false, sZ_z]
      · rfl
      · intro b hb _
        rw [e1 b hb, w, decide_eq_false (fun q => tb_m (b := b) (by omega) q.symm), Bool.and_false]
        rfl
    · rw [h2 m (by omega) (by rw [w]; exact tv_lt (by omega)), Bool.and_false, sZ_z]
      · rfl
      · intro b hb _
        rw [e1 b hb, w, decide_eq_false (tv_b (v := v) (b := b) (by omega) (by omega)), Bool.and_false]
        rfl
    · rw [h1 m (by omega) b0 hb0 w]
      have e2 : sZ Pb (fun b => if (q m && cIn place number 98 (nI b) m) = true then F m else 0) nb = sZ Pb (fun b => if b = b0 then (if q m = true then F m else 0) else 0) nb := by
        refine sZ_cg fun b hb => ?_
        have e3 : (decide (10 + nI b0 = 10 + nI b)) = decide (b = b0) := by
          rw [Bool.eq_iff_iff, decide_eq_true_eq, decide_eq_true_eq, tb_inj (by omega) (by omega)]
          omega
        rw [e1 b hb, w, e3]
        by_cases e : b = b0
        · simp [e]
        · simp [e]
      rw [e2, sZ_one hb0]
      cases q m <;> cases Pb b0 <;> rfl
theorem cntb {i : Nat} : cnt ways mark n i = (decide (¬ ways i < 10) && !hsB ways mark (ways i - 10) 45 n) := rfl
theorem blM_b (hA : ∀ i, i < n → 1 ≤ (amount i).toInt ∧ (amount i).toInt ≤ 400) (hn : n ≤ 100) {j : Nat} (hj : j < n) : 0 ≤ (blM ways mark amount n j).toInt ∧ (blM ways mark amount n j).toInt ≤ 1600001 := by
  rw [blM]
  split
  · decide
  · rename_i h
    have hm : mark j = 120 := Classical.not_not.mp fun q => h (Or.inr q)
    have hs := spM_ge (ways := ways) hA hn hj hm
    have ha := hA j hj
    have hL := losM_b (ways := ways) (mark := mark) hA hn (ways j - 10)
    generalize losM ways mark amount (ways j - 10) n = L at hL
    generalize spM ways mark amount n j = S at hs
    have h1 : 0 ≤ L.toInt * (amount j).toInt := Int.mul_nonneg hL.1 (by omega)
    have h2 : L.toInt * (amount j).toInt ≤ 1600000 * 400 := Int.mul_le_mul hL.2 ha.2 (by omega) (by omega)
    have h3 : L.toInt * (amount j).toInt ≤ L.toInt * S.toInt := Int.mul_le_mul_of_nonneg_left hs.1 hL.1
    have hp : (L * amount j).toInt = L.toInt * (amount j).toInt := tm (by omega) (by omega)
    have h4 : 0 ≤ (L * amount j).toInt.tdiv S.toInt := Int.tdiv_nonneg (by omega) (by omega)
    have h5 : (L * amount j).toInt.tdiv S.toInt ≤ L.toInt := by
      rw [Int.tdiv_eq_ediv_of_nonneg (by omega)]
      exact Int.ediv_le_of_le_mul (by omega) (by rw [hp]; exact h3)
    have h6 : (L * amount j / S).toInt = (L * amount j).toInt.tdiv S.toInt := by
      rw [Int32.toInt_div, Int.bmod_def]
      split <;> omega
    split
    · rw [ta] <;> rw [h6, t1] <;> omega
    · rw [ta] <;> rw [h6, t0] <;> omega
/-- pay and blame: the class's sums over batches are the reference's over samples -/
theorem sum_e {farm X Y : Nat → Int32} {j M : Nat} (hM : M ≤ 2000000) (hW : ∀ i, i < n → wayOk place number ways nv nb i) (hnv : nv ≤ 4) (hnb : nb ≤ 20) (hn : n ≤ 100) (hY : ∀ i, i < n → 0 ≤ (Y i).toInt ∧ (Y i).toInt ≤ M) (hX : ∀ i, i < 100 → X i = if i < n ∧ cnt ways mark n i = true then Y i else 0) :
    sL (fun _ => true) (fun zb => (sI (fun zi => decide (farm zi = nI j) && cIn place number 98 (nI zb) zi) X n).toInt64) nb = sL (fun zi => cnM farm ways mark (nI j) n zi) (fun zi => (Y zi).toInt64) n := by
  have hXb : ∀ i, i < n → 0 ≤ (X i).toInt ∧ (X i).toInt ≤ M := by
    intro i hi
    rw [hX i (by omega)]
    split
    · exact hY i hi
    · rw [t0]; omega
  have hnM : (n : Int) * M < 2147483648 := by
    have h1 : (n : Int) * M ≤ 100 * 2000000 := Int.mul_le_mul (by omega) (by omega) (by omega) (by omega)
    omega
  have hnM2 : (n : Int) * M ≤ 200000000 := by
    have h1 : (n : Int) * M ≤ 100 * 2000000 := Int.mul_le_mul (by omega) (by omega) (by omega) (by omega)
    omega
  have hI : ∀ p : Nat → Bool, (sI p X n).toInt = sZ p (fun i => (X i).toInt) n ∧ 0 ≤ (sI p X n).toInt ∧ (sI p X n).toInt ≤ n * M := fun p => ⟨sI_Z (by omega) hnM (fun i hi _ => hXb i hi), sI_b (by omega) hnM (fun i hi _ => hXb i hi)⟩
  rw [eL, sL_Z (M := 200000000) (by omega) (by omega) (fun b _ _ => by rw [tL]; have := hI (fun zi => decide (farm zi = nI j) && cIn place number 98 (nI b) zi); omega), sL_Z (M := M) (by omega) (by omega) (fun i hi _ => by rw [tL]; exact hY i hi)]
  simp only [tL]
  rw [sZ_cg (q := fun _ => true) (g := fun b => sZ (fun i => decide (farm i = nI j) && cIn place number 98 (nI b) i) (fun i => (X i).toInt) n) (fun b _ => by rw [(hI _).1]), sZ_grp (PP := fun i => decide (¬ ways i < 10)) hnv hnb hW (fun i _ b hb w => by rw [w]; exact decide_eq_true (tb_ge (by omega))) (fun i _ w => decide_eq_false (fun q => q w))]
  refine sZ_cg fun i hi => ?_
  rw [hX i (by omega), cnM, cntb]
  cases decide (farm i = nI j) <;> cases decide (¬ ways i < 10) <;> cases hsB ways mark (ways i - 10) 45 n <;> simp [hi]
theorem bal_e {farm X1 X2 Y1 Y2 : Nat → Int32} {j M : Nat} (hM : M ≤ 2000000) (hn : n ≤ 100) (hY1 : ∀ i, i < n → 0 ≤ (Y1 i).toInt ∧ (Y1 i).toInt ≤ M) (hY2 : ∀ i, i < n → 0 ≤ (Y2 i).toInt ∧ (Y2 i).toInt ≤ M) (hX1 : ∀ i, i < 100 → X1 i = if i < n ∧ cnt ways mark n i = true then Y1 i else 0) (hX2 : ∀ i, i < 100 → X2 i = if i < n ∧ cnt ways mark n i = true then Y2 i else 0) :
    sL (fun zi => decide (farm zi = nI j)) (fun zi => (X1 zi - X2 zi).toInt64) n = sL (fun zi => cnM farm ways mark (nI j) n zi) (fun zi => (Y1 zi).toInt64) n - sL (fun zi => cnM farm ways mark (nI j) n zi) (fun zi => (Y2 zi).toInt64) n := by
  have hd : ∀ i, i < n → (X1 i - X2 i).toInt = (X1 i).toInt - (X2 i).toInt ∧ 0 ≤ (X1 i).toInt ∧ (X1 i).toInt ≤ M ∧ 0 ≤ (X2 i).toInt ∧ (X2 i).toInt ≤ M := by
    intro i hi
    have h1 : 0 ≤ (X1 i).toInt ∧ (X1 i).toInt ≤ M := by
      rw [hX1 i (by omega)]
      split
      · exact hY1 i hi
      · rw [t0]; omega
    have h2 : 0 ≤ (X2 i).toInt ∧ (X2 i).toInt ≤ M := by
      rw [hX2 i (by omega)]
      split
      · exact hY2 i hi
      · rw [t0]; omega
    exact ⟨ts (by omega) (by omega), h1.1, h1.2, h2.1, h2.2⟩
  have hnM : (n : Int) * M ≤ 200000000 := by
    have h1 : (n : Int) * M ≤ 100 * 2000000 := Int.mul_le_mul (by omega) (by omega) (by omega) (by omega)
    omega
  have key : ∀ m, m ≤ n → (sL (fun zi => decide (farm zi = nI j)) (fun zi => (X1 zi - X2 zi).toInt64) m).toInt = sZ (fun zi => decide (farm zi = nI j)) (fun zi => (X1 zi).toInt) m - sZ (fun zi => decide (farm zi = nI j)) (fun zi => (X2 zi).toInt) m ∧ 0 ≤ sZ (fun zi => decide (farm zi = nI j)) (fun zi => (X1 zi).toInt) m ∧ sZ (fun zi => decide (farm zi = nI j)) (fun zi => (X1 zi).toInt) m ≤ m * 2000000 ∧ 0 ≤ sZ (fun zi => decide (farm zi = nI j)) (fun zi => (X2 zi).toInt) m ∧ sZ (fun zi => decide (farm zi = nI j)) (fun zi => (X2 zi).toInt) m ≤ m * 2000000 := by
    intro m
    induction m with
    | zero => intro _; simp [sL, sZ]
    | succ m ih =>
      intro hm
      have ih := ih (by omega)
      have h := hd m (by omega)
      simp only [sL, sZ]
      cases decide (farm m = nI j) with
      | false =>
        simp only [Bool.false_eq_true, if_false]
        rw [aL (by rw [t0L]; omega) (by rw [t0L]; omega), t0L]
        omega
      | true =>
        simp only [if_true]
        rw [aL (by rw [tL]; omega) (by rw [tL]; omega), tL]
        omega
  have hk := key n (Nat.le_refl _)
  have hz1 := sL_Z (p := fun zi => cnM farm ways mark (nI j) n zi) (f := fun zi => (Y1 zi).toInt64) (M := M) (n := n) (by omega) (by omega) (fun i hi _ => by rw [tL]; exact hY1 i hi)
  have hz2 := sL_Z (p := fun zi => cnM farm ways mark (nI j) n zi) (f := fun zi => (Y2 zi).toInt64) (M := M) (n := n) (by omega) (by omega) (fun i hi _ => by rw [tL]; exact hY2 i hi)
  have hb1 := sZ_nn (p := fun zi => cnM farm ways mark (nI j) n zi) (f := fun zi => (Y1 zi).toInt) (M := M) (n := n) (by omega) (fun i hi _ => hY1 i hi)
  have hb2 := sZ_nn (p := fun zi => cnM farm ways mark (nI j) n zi) (f := fun zi => (Y2 zi).toInt) (M := M) (n := n) (by omega) (fun i hi _ => hY2 i hi)
  simp only [tL] at hz1 hz2
  have c : ∀ {X Y : Nat → Int32}, (∀ i, i < 100 → X i = if i < n ∧ cnt ways mark n i = true then Y i else 0) → sZ (fun zi => decide (farm zi = nI j)) (fun zi => (X zi).toInt) n = sZ (fun zi => cnM farm ways mark (nI j) n zi) (fun zi => (Y zi).toInt) n := by
    intro X Y hX
    refine sZ_cg fun i hi => ?_
    rw [hX i (by omega), cnM, cntb]
    cases decide (farm i = nI j) <;> cases decide (¬ ways i < 10) <;> cases hsB ways mark (ways i - 10) 45 n <;> simp [hi]
  rw [eL, hk.1, c hX1, c hX2, sLt (by rw [hz1, hz2]; omega) (by rw [hz1, hz2]; omega), hz1, hz2]
/-- spoilt litres -/
theorem spo_e (hW : ∀ i, i < n → wayOk place number ways nv nb i) (hA : ∀ i, i < n → 1 ≤ (amount i).toInt ∧ (amount i).toInt ≤ 400) (hnv : nv ≤ 4) (hnb : nb ≤ 20) (hn : n ≤ 100) :
    sI (fun zb => decide (0 < spl mark place number amount (nI zb) n)) (fun zb => sI (cIn place number 98 (nI zb)) amount n) nb = sI (fun zi => decide (¬ ways zi < 10) && hsB ways mark (ways zi - 10) 120 n) amount n := by
  have hI : ∀ p : Nat → Bool, (sI p amount n).toInt = sZ p (fun i => (amount i).toInt) n ∧ 0 ≤ (sI p amount n).toInt ∧ (sI p amount n).toInt ≤ 40000 := fun p => by
    have h : ∀ i, i < n → p i = true → 0 ≤ (amount i).toInt ∧ (amount i).toInt ≤ 400 := fun i hi _ => ⟨by have := hA i hi; omega, (hA i hi).2⟩
    have := sI_b (p := p) (M := 400) (by omega) (by omega) h
    exact ⟨sI_Z (M := 400) (by omega) (by omega) h, by omega, by omega⟩
  rw [te, sI_Z (M := 40000) (by omega) (by omega) (fun b _ _ => (hI _).2), (hI _).1]
  rw [sZ_cg (q := fun zb => decide (0 < spl mark place number amount (nI zb) n)) (g := fun b => sZ (fun i => true && cIn place number 98 (nI b) i) (fun i => (amount i).toInt) n) (fun b _ => by rw [(hI _).1]; rfl), sZ_grp (PP := fun i => decide (¬ ways i < 10) && hsB ways mark (ways i - 10) 120 n) hnv hnb hW (fun i _ b hb w => by
    rw [w, tb10 (by omega), decide_eq_true (tb_ge (b := b) (by omega)), Bool.true_and, Bool.eq_iff_iff, decide_eq_true_eq, spl_h hW hA hnv hnb hn (by omega)]) (fun i _ w => by rw [decide_eq_false (fun q => q w), Bool.false_and])]
  rfl
/-- the mean's two sums -/
theorem mean_e {X : Nat → Int32} {Z : Nat → Int32} {M : Nat} (hM : M ≤ 2000000) (hW : ∀ i, i < n → wayOk place number ways nv nb i) (hnv : nv ≤ 4) (hnb : nb ≤ 20) (hn : n ≤ 100) (hX : ∀ i, i < n → 0 ≤ (X i).toInt ∧ (X i).toInt ≤ M) (hZ : ∀ b, b < nb → Z b = sI (fun i => decide (ways i = 10 + nI b)) X n) :
    (sL (fun zb => grB mark place number (nI zb) n) (fun zb => (Z zb).toInt64) nb).toInt = (sI (fun zi => decide (¬ ways zi < 10) && !hsB ways mark (ways zi - 10) 45 n) X n).toInt ∧ 0 ≤ (sI (fun zi => decide (¬ ways zi < 10) && !hsB ways mark (ways zi - 10) 45 n) X n).toInt := by
  have hnM : (n : Int) * M ≤ 200000000 := by
    have h1 : (n : Int) * M ≤ 100 * 2000000 := Int.mul_le_mul (by omega) (by omega) (by omega) (by omega)
    omega
  have hI : ∀ p : Nat → Bool, (sI p X n).toInt = sZ p (fun i => (X i).toInt) n ∧ 0 ≤ (sI p X n).toInt ∧ (sI p X n).toInt ≤ 200000000 := fun p => by
    have := sI_b (p := p) (M := M) (by omega) (by omega) (fun i hi _ => hX i hi)
    exact ⟨sI_Z (M := M) (by omega) (by omega) (fun i hi _ => hX i hi), by omega, by omega⟩
  refine ⟨?_, (hI _).2.1⟩
  rw [sL_Z (M := 200000000) (by omega) (by omega) (fun b hb _ => by rw [tL, hZ b hb]; exact (hI _).2), (hI _).1]
  simp only [tL]
  rw [sZ_cg (q := fun zb => grB mark place number (nI zb) n) (g := fun b => sZ (fun i => true && cIn place number 98 (nI b) i) (fun i => (X i).toInt) n) (fun b hb => by
    rw [hZ b hb, (hI _).1, sZ_cg (q := fun i => true && cIn place number 98 (nI b) i) (g := fun i => (X i).toInt) (fun i hi => by rw [way_b (hW i hi) hnv hnb (by omega), Bool.true_and])]), sZ_grp (PP := fun i => decide (¬ ways i < 10) && !hsB ways mark (ways i - 10) 45 n) hnv hnb hW (fun i _ b hb w => by
    rw [w, tb10 (by omega), decide_eq_true (tb_ge (b := b) (by omega)), Bool.true_and, gr_h hW hnv hnb (by omega)]) (fun i _ w => by rw [decide_eq_false (fun q => q w), Bool.false_and])]
  rfl
end GR
