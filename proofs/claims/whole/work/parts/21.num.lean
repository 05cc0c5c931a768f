theorem ta {x y : Int32} (h1 : -2147483648 ≤ x.toInt + y.toInt) (h2 : x.toInt + y.toInt < 2147483648) : (x + y).toInt = x.toInt + y.toInt := by
  rw [Int32.toInt_add, Int.bmod_def]
  split <;> omega
theorem ts {x y : Int32} (h1 : -2147483648 ≤ x.toInt - y.toInt) (h2 : x.toInt - y.toInt < 2147483648) : (x - y).toInt = x.toInt - y.toInt := by
  rw [Int32.toInt_sub, Int.bmod_def]
  split <;> omega
theorem tm {x y : Int32} (h1 : -2147483648 ≤ x.toInt * y.toInt) (h2 : x.toInt * y.toInt < 2147483648) : (x * y).toInt = x.toInt * y.toInt := by
  rw [Int32.toInt_mul, Int.bmod_def]
  generalize x.toInt * y.toInt = z at h1 h2
  split <;> omega
theorem te {x y : Int32} : x = y ↔ x.toInt = y.toInt := Int32.toInt_inj.symm
theorem tle {x y : Int32} : x ≤ y ↔ x.toInt ≤ y.toInt := Int32.le_iff_toInt_le
theorem tlt {x y : Int32} : x < y ↔ x.toInt < y.toInt := Int32.lt_iff_toInt_lt
theorem tn {n : Nat} (h : n ≤ 2000000) : (nI n).toInt = n := nI_toInt (by omega)
theorem t0 : (0 : Int32).toInt = 0 := by decide
theorem t1 : (1 : Int32).toInt = 1 := by decide
theorem tm1 : (-1 : Int32).toInt = -1 := by decide
theorem t5 : (5 : Int32).toInt = 5 := by decide
theorem t10 : (10 : Int32).toInt = 10 := by decide
theorem t30 : (30 : Int32).toInt = 30 := by decide
theorem t60 : (60 : Int32).toInt = 60 := by decide
theorem t100 : (100 : Int32).toInt = 100 := by decide
theorem t200 : (200 : Int32).toInt = 200 := by decide
theorem t400 : (400 : Int32).toInt = 400 := by decide
theorem t900 : (900 : Int32).toInt = 900 := by decide
theorem t999 : (999 : Int32).toInt = 999 := by decide
theorem tb {b : Nat} (h : b ≤ 20) : (10 + nI b).toInt = 10 + b := by
  rw [ta] <;> rw [t10, tn (by omega)] <;> omega
theorem tb10 {b : Nat} (h : b ≤ 20) : (10 + nI b) - 10 = nI b := by
  have h1 := tb h
  rw [te, ts (by rw [h1, t10]; omega) (by rw [h1, t10]; omega), h1, t10, tn (by omega)]
  omega
theorem tb_ge {b : Nat} (h : b ≤ 20) : ¬ (10 + nI b) < 10 := by rw [tlt, tb h, t10]; omega
theorem tb_inj {b c : Nat} (h : b ≤ 20) (h2 : c ≤ 20) : (10 + nI b) = (10 + nI c) ↔ b = c := by rw [te, tb h, tb h2]; omega
theorem tn_inj {b c : Nat} (h : b ≤ 2000000) (h2 : c ≤ 2000000) : nI b = nI c ↔ b = c := by rw [te, tn h, tn h2]; omega
theorem tv_b {v b : Nat} (h : v ≤ 4) (h2 : b ≤ 20) : ¬ nI v = 10 + nI b := by rw [te, tn (by omega), tb h2]; omega
theorem tv_m {v : Nat} (h : v ≤ 4) : ¬ nI v = -1 := by rw [te, tn (by omega), tm1]; omega
theorem tb_m {b : Nat} (h : b ≤ 20) : ¬ (10 + nI b) = -1 := by rw [te, tb h, tm1]; omega
theorem tv_lt {v : Nat} (h : v ≤ 4) : nI v < 10 := by rw [tlt, tn (by omega), t10]; omega
theorem sI_congr {p q : Nat → Bool} {f g : Nat → Int32} : ∀ {n : Nat}, (∀ i, i < n → p i = q i) → (∀ i, i < n → q i = true → f i = g i) → sI p f n = sI q g n
  | 0, _, _ => rfl
  | n + 1, h1, h2 => by
    rw [sI, sI, sI_congr (fun i hi => h1 i (by omega)) (fun i hi => h2 i (by omega)), h1 n (by omega)]
    cases hq : q n with
    | false => rfl
    | true => rw [h2 n (by omega) hq]
theorem sL_congr {p q : Nat → Bool} {f g : Nat → Int64} : ∀ {n : Nat}, (∀ i, i < n → p i = q i) → (∀ i, i < n → q i = true → f i = g i) → sL p f n = sL q g n
  | 0, _, _ => rfl
  | n + 1, h1, h2 => by
    rw [sL, sL, sL_congr (fun i hi => h1 i (by omega)) (fun i hi => h2 i (by omega)), h1 n (by omega)]
    cases hq : q n with
    | false => rfl
    | true => rw [h2 n (by omega) hq]
theorem eB_congr {p q : Nat → Bool} : ∀ {n : Nat}, (∀ i, i < n → p i = q i) → eB p n = eB q n
  | 0, _ => rfl
  | n + 1, h => by rw [eB, eB, eB_congr (fun i hi => h i (by omega)), h n (by omega)]
theorem eB_iff {p : Nat → Bool} : ∀ {n : Nat}, eB p n = true ↔ ∃ i, i < n ∧ p i = true
  | 0 => ⟨fun h => (nomatch h), fun ⟨_, h, _⟩ => absurd h (Nat.not_lt_zero _)⟩
  | n + 1 => by
    rw [eB, Bool.or_eq_true, eB_iff]
    constructor
    · rintro (⟨i, h, q⟩ | h)
      · exact ⟨i, by omega, q⟩
      · exact ⟨n, by omega, h⟩
    · rintro ⟨i, h, q⟩
      rcases Nat.lt_or_ge i n with h1 | h1
      · exact Or.inl ⟨i, h1, q⟩
      · rw [show i = n by omega] at q
        exact Or.inr q
def sZ (p : Nat → Bool) (f : Nat → Int) : Nat → Int | 0 => 0 | n + 1 => sZ p f n + (if p n then f n else 0)
theorem sZ_nn {p : Nat → Bool} {f : Nat → Int} {M : Int} (hM : 0 ≤ M) : ∀ {n : Nat}, (∀ i, i < n → p i = true → 0 ≤ f i ∧ f i ≤ M) → 0 ≤ sZ p f n ∧ sZ p f n ≤ n * M
  | 0, _ => by simp [sZ]
  | n + 1, h => by
    have ih := sZ_nn hM (p := p) (f := f) (n := n) (fun i hi => h i (by omega))
    have hd : ((n + 1 : Nat) : Int) * M = n * M + M := by rw [Int.natCast_succ, Int.add_mul, Int.one_mul]
    rw [sZ, hd]
    cases hp : p n with
    | false => simp; omega
    | true => have := h n (by omega) hp; simp; omega
theorem sI_Z {p : Nat → Bool} {f : Nat → Int32} {M : Int} (hM : 0 ≤ M) : ∀ {n : Nat}, n * M < 2147483648 → (∀ i, i < n → p i = true → 0 ≤ (f i).toInt ∧ (f i).toInt ≤ M) → (sI p f n).toInt = sZ p (fun i => (f i).toInt) n
  | 0, _, _ => by simp [sI, sZ]
  | n + 1, hn, h => by
    have hd : ((n + 1 : Nat) : Int) * M = n * M + M := by rw [Int.natCast_succ, Int.add_mul, Int.one_mul]
    rw [hd] at hn
    have ih := sI_Z hM (p := p) (f := f) (n := n) (by omega) (fun i hi => h i (by omega))
    have hb := sZ_nn hM (p := p) (f := fun i => (f i).toInt) (n := n) (fun i hi => h i (by omega))
    rw [sI, sZ]
    cases hp : p n with
    | false =>
      simp only [Bool.false_eq_true, if_false]
      rw [ta] <;> rw [ih, t0] <;> omega
    | true =>
      have := h n (by omega) hp
      simp only [if_true]
      rw [ta] <;> rw [ih] <;> omega
theorem sI_b {p : Nat → Bool} {f : Nat → Int32} {M : Int} (hM : 0 ≤ M) {n : Nat} (hn : n * M < 2147483648) (h : ∀ i, i < n → p i = true → 0 ≤ (f i).toInt ∧ (f i).toInt ≤ M) : 0 ≤ (sI p f n).toInt ∧ (sI p f n).toInt ≤ n * M := by
  rw [sI_Z hM hn h]
  exact sZ_nn hM h
theorem sZ_pos {p : Nat → Bool} {f : Nat → Int} : ∀ {n : Nat}, (∀ i, i < n → p i = true → 0 < f i) → (0 < sZ p f n ↔ ∃ i, i < n ∧ p i = true)
  | 0, _ => by simp [sZ]
  | n + 1, h => by
    have ih := sZ_pos (p := p) (f := f) (n := n) (fun i hi => h i (by omega))
    have hz : 0 ≤ sZ p f n := by
      clear ih
      revert h
      suffices ∀ m, (∀ i, i < m → p i = true → 0 < f i) → 0 ≤ sZ p f m from fun h => this n (fun i hi => h i (by omega))
      intro m
      induction m with
      | zero => intro _; simp [sZ]
      | succ m ih2 =>
        intro h
        have a1 := ih2 (fun i hi => h i (by omega))
        rw [sZ]
        cases hp : p m with
        | false => simp; omega
        | true => have := h m (by omega) hp; simp; omega
    rw [sZ]
    cases hp : p n with
    | false =>
      simp only [Bool.false_eq_true, if_false, Int.add_zero]
      rw [ih]
      constructor
      · rintro ⟨i, h1, h2⟩
        exact ⟨i, by omega, h2⟩
      · rintro ⟨i, h1, h2⟩
        refine ⟨i, ?_, h2⟩
        rcases Nat.lt_or_ge i n with h3 | h3
        · exact h3
        · rw [show i = n by omega, hp] at h2; cases h2
    | true =>
      have := h n (by omega) hp
      simp only [if_true]
      exact ⟨fun _ => ⟨n, by omega, hp⟩, fun _ => by omega⟩
theorem sI_pos {p : Nat → Bool} {f : Nat → Int32} {M : Int} (hM : 0 ≤ M) {n : Nat} (hn : n * M < 2147483648) (h : ∀ i, i < n → 0 < (f i).toInt ∧ (f i).toInt ≤ M) : (0 < sI p f n ↔ ∃ i, i < n ∧ p i = true) := by
  rw [tlt, t0, sI_Z hM hn (fun i hi _ => ⟨by have := h i hi; omega, (h i hi).2⟩)]
  exact sZ_pos (fun i hi _ => (h i hi).1)
def wayOk (place number ways : Nat → Int32) (nv nb i : Nat) : Prop := (ways i = -1 ∧ place i = 116 ∧ number i = 0) ∨ (∃ v, v < nv ∧ ways i = nI v ∧ place i = 118 ∧ number i = nI v) ∨ (∃ b, b < nb ∧ ways i = 10 + nI b ∧ place i = 98 ∧ number i = nI b)
theorem way_b {place number ways : Nat → Int32} {nv nb i b : Nat} (h : wayOk place number ways nv nb i) (hnv : nv ≤ 4) (hnb : nb ≤ 20) (hb : b ≤ 20) : cIn place number 98 (nI b) i = decide (ways i = 10 + nI b) := by
  rw [Bool.eq_iff_iff]
  simp only [cIn, Bool.and_eq_true, decide_eq_true_eq]
  rcases h with ⟨h1, h2, h3⟩ | ⟨v, hv, h1, h2, h3⟩ | ⟨c, hc, h1, h2, h3⟩ <;> rw [h1, h2, h3]
  · exact ⟨fun q => absurd q.1 (by decide), fun q => absurd q.symm (tb_m hb)⟩
  · exact ⟨fun q => absurd q.1 (by decide), fun q => absurd q (tv_b (by omega) hb)⟩
  · rw [tb_inj (by omega) hb, tn_inj (by omega) (by omega)]
    simp
theorem way_v {place number ways : Nat → Int32} {nv nb i v : Nat} (h : wayOk place number ways nv nb i) (hnv : nv ≤ 4) (hnb : nb ≤ 20) (hv : v ≤ 4) : cIn place number 118 (nI v) i = decide (ways i = nI v) := by
  rw [Bool.eq_iff_iff]
  simp only [cIn, Bool.and_eq_true, decide_eq_true_eq]
  rcases h with ⟨h1, h2, h3⟩ | ⟨w, hw, h1, h2, h3⟩ | ⟨c, hc, h1, h2, h3⟩ <;> rw [h1, h2, h3]
  · exact ⟨fun q => absurd q.1 (by decide), fun q => absurd q.symm (tv_m hv)⟩
  · simp
  · exact ⟨fun q => absurd q.1 (by decide), fun q => absurd q.symm (tv_b hv (by omega))⟩
theorem way_t {place number ways : Nat → Int32} {nv nb i : Nat} (h : wayOk place number ways nv nb i) (hnv : nv ≤ 4) (hnb : nb ≤ 20) : cIn place number 116 0 i = decide (ways i = -1) := by
  rw [Bool.eq_iff_iff]
  simp only [cIn, Bool.and_eq_true, decide_eq_true_eq]
  rcases h with ⟨h1, h2, h3⟩ | ⟨w, hw, h1, h2, h3⟩ | ⟨c, hc, h1, h2, h3⟩ <;> rw [h1, h2, h3]
  · simp
  · exact ⟨fun q => absurd q.1 (by decide), fun q => absurd q (tv_m (by omega))⟩
  · exact ⟨fun q => absurd q.1 (by decide), fun q => absurd q (tb_m (by omega))⟩
theorem way_w {place number ways : Nat → Int32} {nv nb i : Nat} (h : wayOk place number ways nv nb i) (hnv : nv ≤ 4) (hnb : nb ≤ 20) : wyM (ways i) = place i := by
  rcases h with ⟨h1, h2, h3⟩ | ⟨w, hw, h1, h2, h3⟩ | ⟨c, hc, h1, h2, h3⟩ <;> rw [h1, h2, wyM]
  · simp
  · rw [if_neg (tv_m (by omega)), if_pos (tv_lt (by omega))]
  · rw [if_neg (tb_m (by omega)), if_neg (tb_ge (by omega))]
