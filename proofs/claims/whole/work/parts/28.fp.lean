theorem n32_of {r : UInt32} (h : FP.Core.val32 r ≠ .nan) : vf_n32 r := by
  have h1 : ¬ 2139095040 < r.toNat % 2 ^ 31 := fun q => h (by
    have := (FP.Core.isNaN_bits32 r).mpr q
    exact (FP.Core.fIsNaN_iff r).mp this)
  unfold vf_n32
  rw [UInt32.le_iff_toNat_le, UInt32.toNat_and]
  show r.toNat &&& (2 ^ 31 - 1) ≤ 2139095040
  rw [Nat.and_two_pow_sub_one_eq_mod]
  omega
theorem n64_of {r : UInt64} (h : FP.Core.val64 r ≠ .nan) : vf_n64 r := by
  have h1 : ¬ 9218868437227405312 < r.toNat % 2 ^ 63 := fun q => h (by
    have := (FP.Core.isNaN_bits r).mpr q
    exact (FP.Core.dIsNaN_iff r).mp this)
  unfold vf_n64
  rw [UInt64.le_iff_toNat_le, UInt64.toNat_and]
  show r.toNat &&& (2 ^ 63 - 1) ≤ 9218868437227405312
  rw [Nat.and_two_pow_sub_one_eq_mod]
  omega
theorem whole_fin0 {i : Int} {t : Bool} {r : Int} (h : FP.Core.Whole i (.fin t 0 r)) : i = 0 := by
  have h2 : (0 : Int) = i * ((2 ^ (-r).toNat : Nat) : Int) := by
    have h3 : FP.Core.signed t (0 * 2 ^ r.toNat) = i * ((2 ^ (-r).toNat : Nat) : Int) := h
    rw [Nat.zero_mul] at h3
    rw [← h3]
    cases t <;> rfl
  have h4 := Nat.two_pow_pos (-r).toNat
  generalize 2 ^ (-r).toNat = z at h2 h4
  rcases Int.mul_eq_zero.mp h2.symm with q | q
  · exact q
  · omega
theorem q32 {a b : Int32} (hb : ¬ b.toInt = 0) (hb2 : b.toInt.natAbs ≤ 2 ^ 24) : FP.Core.val32 (FP.fdiv (FP.i2f a) (FP.i2f b)) ≠ .nan := by
  intro h
  rw [show FP.fdiv (FP.i2f a) (FP.i2f b) = FP.Core.fdiv (FP.Core.i2f a) (FP.Core.i2f b) from rfl, FP.Core.val32_fdiv, FP.Core.quotient_nan] at h
  obtain ⟨s1, c1, q1, e1⟩ := FP.Core.i2f_fin a
  obtain ⟨s2, c2, q2, e2⟩ := FP.Core.i2f_fin b
  have hw : FP.Core.Whole b.toInt (FP.Core.val32 (FP.Core.i2f b)) := FP.Core.i2f_int hb2
  rcases h with h | h | ⟨s, t, h, -⟩ | ⟨s, t, q, r, -, h⟩
  · rw [e1] at h; cases h
  · rw [e2] at h; cases h
  · rw [e1] at h; cases h
  · rw [h] at hw
    exact hb (whole_fin0 hw)
theorem q64 {x y : UInt64} {i : Int} (hx : ∃ s c q, FP.Core.val64 x = .fin s c q) (hy : ∃ s c q, FP.Core.val64 y = .fin s c q) (hw : FP.Core.Whole i (FP.Core.val64 y)) (hi : ¬ i = 0) : FP.Core.val64 (FP.ddiv x y) ≠ .nan := by
  intro h
  rw [show FP.ddiv x y = FP.Core.ddiv x y from rfl, FP.Core.val64_ddiv, FP.Core.quotient_nan] at h
  obtain ⟨s1, c1, q1, e1⟩ := hx
  obtain ⟨s2, c2, q2, e2⟩ := hy
  rcases h with h | h | ⟨s, t, h, -⟩ | ⟨s, t, q, r, -, h⟩
  · rw [e1] at h; cases h
  · rw [e2] at h; cases h
  · rw [e1] at h; cases h
  · rw [h] at hw
    exact hi (whole_fin0 hw)
theorem q64i {a b : Int32} (hb : ¬ b.toInt = 0) : FP.Core.val64 (FP.ddiv (FP.i2d a) (FP.i2d b)) ≠ .nan := q64 (FP.Core.i2d_fin a) (FP.Core.i2d_fin b) (FP.Core.i2d_int b) hb
theorem l2d_i2d {x : Int64} {y : Int32} (h : x.toInt = y.toInt) : FP.l2d x = FP.i2d y := by
  show FP.Core.l2d x = FP.Core.i2d y
  rw [FP.Core.l2d, FP.Core.i2d, h]
theorem f2d_n {x : UInt32} (h : FP.Core.val32 x ≠ .nan) : FP.Core.val64 (FP.f2d x) ≠ .nan := by
  have h1 : FP.Core.fIsNaN x = false := by
    cases q : FP.Core.fIsNaN x with
    | false => rfl
    | true => exact absurd ((FP.Core.fIsNaN_iff x).mp q) h
  rw [FP.f2d, if_neg (by rw [h1]; decide), FP.Core.val64_f2d]
  exact fun q => h (FP.Core.round_nan.mp q)
theorem dcmp_s {x : UInt64} (h : FP.Core.val64 x ≠ .nan) : Op.cmpValue (FP.dcmp x x) .l = 0 := by
  rw [show FP.dcmp x x = FP.Core.dcmp x x from rfl, FP.Core.dcmp_self h]
  rfl
