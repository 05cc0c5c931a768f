section KF
variable {p : Program} {l : Launch} {e : Env} {R : Room} {s : State} {m : MethodId} {args : Array Value} {below : List Frame} {meth : Method} {c : Code} {cells slots : Nat} {Q : State → Prop}
variable {cc : ByteArray} {own : String} {nL pc : Nat} {D : va_G} {tys : List (ClassId × FieldType)} {G : va_W → Heap → List Loc → Prop} {ws : va_W} {lv : List (Nat × Value)} {st : List Value}
theorem k_fconst0 (E : kE p s m args c own cc nL D tys G) (d : decode cc pc = .ok (.fconst 0, 1)) (K : kJ p l e R s m args below meth c G nL cells slots Q ws (pc + 1) lv (.float FP.fconst0 :: st)) : kJ p l e R s m args below meth c G nL cells slots Q ws pc lv st := fun H locs ls hG hl => lv_fconst0 E.1 E.2.1 d (K H locs ls hG hl)
theorem k_dconst0 (E : kE p s m args c own cc nL D tys G) (d : decode cc pc = .ok (.dconst 0, 1)) (K : kJ p l e R s m args below meth c G nL cells slots Q ws (pc + 1) lv (.double FP.dconst0 :: st)) : kJ p l e R s m args below meth c G nL cells slots Q ws pc lv st := fun H locs ls hG hl => lv_dconst0 E.1 E.2.1 d (K H locs ls hG hl)
end KF
theorem fb_rng0 (x : Int32) : -2147483648 ≤ x.toInt ∧ x.toInt < 2147483648 := ⟨Int32.le_toInt x, Int32.toInt_lt x⟩
def inL (v lo hi : Int64) : Bool := decide (¬ lg_cmp v lo < 0) && decide (¬ 0 < lg_cmp v hi)
theorem inL_iff {v lo hi : Int64} : inL v lo hi = true ↔ lo.toInt ≤ v.toInt ∧ v.toInt ≤ hi.toInt := by
  simp only [inL, Bool.and_eq_true, decide_eq_true_eq, lg_cmp_lt, lg_cmp_gt, Int64.lt_iff_toInt_lt]
  omega
theorem inL_t {x : Int32} {a b : Int64} (lo hi : Int32) (ha : lo.toInt64 = a) (hb : hi.toInt64 = b) (h1 : ¬ x < lo) (h2 : x ≤ hi) : inL x.toInt64 a b = true := by
  rw [inL_iff, ← ha, ← hb]
  simp only [Int32.toInt_toInt64]
  rw [Int32.lt_iff_toInt_lt] at h1
  rw [Int32.le_iff_toInt_le] at h2
  omega
theorem inL_f {x : Int32} {a b : Int64} (lo hi : Int32) (ha : lo.toInt64 = a) (hb : hi.toInt64 = b) (h : x < lo ∨ hi < x) : inL x.toInt64 a b = false := by
  cases hq : inL x.toInt64 a b with
  | false => rfl
  | true =>
    rw [inL_iff, ← ha, ← hb] at hq
    simp only [Int32.toInt_toInt64] at hq
    rw [Int32.lt_iff_toInt_lt, Int32.lt_iff_toInt_lt] at h
    omega
def isR (x : Int32) (c : Nat) : Bool := inL x.toInt64 0 (nI c - 1).toInt64
theorem nI_sub1 {c : Nat} (hc : c ≤ 100) : (nI c - 1).toInt = (c : Int) - 1 := by
  have h1 := nI_toInt (n := c) (by omega)
  have h2 := fb_rng0 (nI c)
  rw [Int32.toInt_sub, h1, show (1 : Int32).toInt = 1 from by decide]
  rw [Int.bmod_def]
  split <;> omega
theorem isR_t {j c : Nat} (hj : j < c) (hc : c ≤ 100) : isR (nI j) c = true := by
  unfold isR
  rw [inL_iff]
  simp only [Int32.toInt_toInt64, nI_sub1 hc, nI_toInt (show j < 2 ^ 31 by omega)]
  rw [show (0 : Int64).toInt = 0 from by decide]
  omega
theorem isR_f {x : Int32} {c : Nat} (h : x < 0 ∨ nI c ≤ x) (hc : c ≤ 100) : isR x c = false := by
  cases hq : isR x c with
  | false => rfl
  | true =>
    unfold isR at hq
    rw [inL_iff] at hq
    simp only [Int32.toInt_toInt64, nI_sub1 hc] at hq
    rw [show (0 : Int64).toInt = 0 from by decide] at hq
    rw [Int32.lt_iff_toInt_lt, Int32.le_iff_toInt_le, nI_toInt (show c < 2 ^ 31 by omega), show (0 : Int32).toInt = 0 from by decide] at h
    omega
theorem not_not_intro_lt {x y : Int32} (h : x ≤ y) : ¬ y < x := Int32.not_lt.mpr h
theorem minI_r {x y : Int32} (h : y ≤ x) : minI x y = y := by
  unfold minI
  split
  · rfl
  · rename_i h2
    exact Int32.le_antisymm (Int32.not_lt.mp h2) h
theorem minI_l {x y : Int32} (h : ¬ y ≤ x) : minI x y = x := by
  unfold minI
  rw [if_neg]
  intro q
  exact h (Int32.le_of_lt q)
theorem upd_self (f : Nat → Int32) (i : Nat) : upd f i (f i) = f := by
  funext j
  by_cases e : j = i <;> simp [upd, e]
theorem milkC_1 {b d : Int32} (h : 0 ≤ 5 - (d - d / 10 * 10)) (h2 : 5 ≤ b - (5 - (d - d / 10 * 10))) : milkC b d = b - (5 - (d - d / 10 * 10)) := by
  unfold milkC absI rem10
  rw [if_pos h]
  split
  · rfl
  · rename_i q
    exact Int32.le_antisymm h2 (Int32.not_lt.mp q)
theorem milkC_2 {b d : Int32} (h : 0 ≤ 5 - (d - d / 10 * 10)) (h2 : ¬ 5 ≤ b - (5 - (d - d / 10 * 10))) : milkC b d = 5 := by
  unfold milkC absI rem10
  rw [if_pos h, if_neg (fun q => h2 (Int32.le_of_lt q))]
theorem milkC_3 {b d : Int32} (h : ¬ 0 ≤ 5 - (d - d / 10 * 10)) (h2 : 5 ≤ b - -(5 - (d - d / 10 * 10))) : milkC b d = b - -(5 - (d - d / 10 * 10)) := by
  unfold milkC absI rem10
  rw [if_neg h, Int32.zero_sub]
  split
  · rfl
  · rename_i q
    exact Int32.le_antisymm h2 (Int32.not_lt.mp q)
theorem milkC_4 {b d : Int32} (h : ¬ 0 ≤ 5 - (d - d / 10 * 10)) (h2 : ¬ 5 ≤ b - -(5 - (d - d / 10 * 10))) : milkC b d = 5 := by
  unfold milkC absI rem10
  rw [if_neg h, Int32.zero_sub, if_neg (fun q => h2 (Int32.le_of_lt q))]
def mt (row : Nat → Int32) (d rm t0 : Int32) : Nat → Int32 | 0 => t0 | c + 1 => mt row d rm t0 c + minI (milkC (row c) d) (rm - mt row d rm t0 c)
def mp (row : Nat → Int32) (d rm t0 : Int32) : Nat → Int32 | 0 => 0 | c + 1 => mp row d rm t0 c + (milkC (row c) d - minI (milkC (row c) d) (rm - mt row d rm t0 c))
theorem pass_a {tk2 tk3 row : Nat → Int32} {i c : Nat} {d rm t0 K : Int32} (ht : tk3 = upd tk2 i (mt row d rm t0 c)) (hK : K = minI (milkC (row c) d) (rm - tk3 i)) : upd tk3 i (tk3 i + K) = upd tk2 i (mt row d rm t0 (c + 1)) := by
  have e : tk3 i = mt row d rm t0 c := by rw [ht]; simp [upd]
  rw [hK, e, mt, ht]
  funext j
  by_cases q : j = i <;> simp [upd, q]
theorem pass_b {tk2 tk3 row : Nat → Int32} {i c : Nat} {d rm t0 K x2 x3 : Int32} (ht : tk3 = upd tk2 i (mt row d rm t0 c)) (hx : x3 = x2 + mp row d rm t0 c) (hK : K = minI (milkC (row c) d) (rm - tk3 i)) : x3 + (milkC (row c) d - K) = x2 + mp row d rm t0 (c + 1) := by
  have e : tk3 i = mt row d rm t0 c := by rw [ht]; simp [upd]
  rw [hK, e, mp, hx, Int32.add_assoc]
def brow (bests : Nat → Int32) (f : Nat) : Nat → Int32 := fun zi => bests (5 * f + zi)
def tkM (rooms tanks bests : Nat → Int32) (cw : Nat → Nat) (d : Int32) (nf : Nat) : Nat → Int32 := wr (fun _ => true) (fun j => mt (brow bests j) d (rooms j) (tanks j) (cw j)) tanks nf
def poM (rooms tanks bests : Nat → Int32) (cw : Nat → Nat) (d : Int32) (nf : Nat) : Int32 := sI (fun _ => true) (fun j => mp (brow bests j) d (rooms j) (tanks j) (cw j)) nf
def tkN (rooms tanks bests : Nat → Int32) (cw : Nat → Nat) (dy nf : Nat) : Nat → Nat → Int32 | 0 => tanks | t + 1 => tkM rooms (tkN rooms tanks bests cw dy nf t) bests cw (nI (dy + t + 1)) nf
def poN (rooms tanks bests : Nat → Int32) (cw : Nat → Nat) (dy nf : Nat) : Nat → Int32 | 0 => 0 | t + 1 => poN rooms tanks bests cw dy nf t + poM rooms (tkN rooms tanks bests cw dy nf t) bests cw (nI (dy + t + 1)) nf
def eB (p : Nat → Bool) : Nat → Bool | 0 => false | n + 1 => eB p n || p n
def hsB (ways mark : Nat → Int32) (b g : Int32) (n : Nat) : Bool := eB (fun zi => decide (ways zi = 10 + b) && decide (mark zi = g)) n
def stM (ways mark : Nat → Int32) (b : Int32) (n : Nat) : Int32 := if hsB ways mark b 120 n = true then 120 else if hsB ways mark b 45 n = true then 119 else 103
def payM (ways mark amount : Nat → Int32) (n : Nat) (j : Nat) : Int32 := if ways j < 10 ∨ hsB ways mark (ways j - 10) 120 n = true then 0 else cents (mark j) * amount j
def losM (ways mark amount : Nat → Int32) (b : Int32) (n : Nat) : Int32 := if hsB ways mark b 120 n = true then sI (fun zi => decide (ways zi = 10 + b)) (fun zi => cents (mark zi) * amount zi) n else 0
def spM (ways mark amount : Nat → Int32) (n j : Nat) : Int32 := sI (fun zi => decide (ways zi = ways j) && decide (mark zi = 120)) amount n
def lfM (ways mark amount : Nat → Int32) (n j i : Nat) : Int32 := losM ways mark amount (ways j - 10) n - sI (fun zi => decide (ways zi = ways j) && decide (mark zi = 120)) (fun zi => losM ways mark amount (ways j - 10) n * amount zi / spM ways mark amount n j) i
def ahM (ways mark : Nat → Int32) (j i : Nat) : Int32 := sI (fun zi => (decide (ways zi = ways j) && decide (mark zi = 120)) && decide (zi < j)) (fun _ => 1) i
def blM (ways mark amount : Nat → Int32) (n j : Nat) : Int32 := if ways j < 10 ∨ ¬ mark j = 120 then 0 else losM ways mark amount (ways j - 10) n * amount j / spM ways mark amount n j + (if ahM ways mark j n < lfM ways mark amount n j n then 1 else 0)
def cnM (farm ways mark : Nat → Int32) (fa : Int32) (n j : Nat) : Bool := decide (farm j = fa) && (decide (¬ ways j < 10) && !hsB ways mark (ways j - 10) 45 n)
def wyM (w : Int32) : Int32 := if w = -1 then 116 else if w < 10 then 118 else 98
theorem bvS_cases (fr : Nat → Int32) (need : Int32) : ∀ i : Nat, (bvS fr need i).1 = -1 ∨ ∃ jb, jb < i ∧ bvS fr need i = (nI jb, fr jb)
  | 0 => Or.inl rfl
  | i + 1 => by
    rw [bvS]
    split
    · exact Or.inr ⟨i, Nat.lt_succ_self i, rfl⟩
    · rcases bvS_cases fr need i with h | ⟨jb, h1, h2⟩
      · exact Or.inl h
      · exact Or.inr ⟨jb, by omega, h2⟩
