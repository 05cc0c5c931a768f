abbrev wSA (k : Nat → ClassId) (h : Nat) (a0 : Nat) (a1 : Nat) (a2 : Nat) (a3 : Nat) (a4 : Nat) (a5 : Nat) (a6 : Nat) (n : Int32) (farm : Nat → Int32) (amount : Nat → Int32) (mark : Nat → Int32) (place : Nat → Int32) (number : Nat → Int32) (paid : Nat → Int32) (blamed : Nat → Int32) : va_W := [(h, .inr (1, [.int n, .ref a0, .ref a1, .ref a2, .ref a3, .ref a4, .ref a5, .ref a6])), (a0, .inl (k 0, 100, .inl farm)), (a1, .inl (k 0, 100, .inl amount)), (a2, .inl (k 1, 100, .inl mark)), (a3, .inl (k 1, 100, .inl place)), (a4, .inl (k 0, 100, .inl number)), (a5, .inl (k 0, 100, .inl paid)), (a6, .inl (k 0, 100, .inl blamed))]
abbrev wFA (k : Nat → ClassId) (h : Nat) (a0 : Nat) (a1 : Nat) (a2 : Nat) (a3 : Nat) (rr : Nat → Nat) (nf : Int32) (rooms : Nat → Int32) (tanks : Nat → Int32) (cows : Nat → Int32) (bst : Nat → Nat → Int32) : va_W := [(h, .inr (0, [.int nf, .ref a0, .ref a1, .ref a2, .ref a3])), (a0, .inl (k 0, 6, .inl rooms)), (a1, .inl (k 0, 6, .inl tanks)), (a2, .inl (k 0, 6, .inl cows)), (a3, .inl (k 5, 6, .inr (.inr (.inr (.inr (fun i => if i < 6 then some (rr i) else none)))))), (rr 0, .inl (k 0, 5, .inl (bst 0))), (rr 1, .inl (k 0, 5, .inl (bst 1))), (rr 2, .inl (k 0, 5, .inl (bst 2))), (rr 3, .inl (k 0, 5, .inl (bst 3))), (rr 4, .inl (k 0, 5, .inl (bst 4))), (rr 5, .inl (k 0, 5, .inl (bst 5)))]
abbrev oMR (a : Nat → Nat) (today : Int32) (vc : Int32) (rounds : Int32) (und : Int32) (nb : Int32) : Nat × va_E := (a 0, .inr (2, [.int today, .ref (a 1), .int vc, .ref (a 6), .int rounds, .int und, .ref (a 7), .ref (a 8), .int nb]))
abbrev yMR (k : Nat → ClassId) (a : Nat → Nat) (vrooms : Nat → Int32) (vis : Nat → Int32) (n : Int32) (farm : Nat → Int32) (amount : Nat → Int32) (mark : Nat → Int32) (place : Nat → Int32) (number : Nat → Int32) (paid : Nat → Int32) (blamed : Nat → Int32) : va_W := [(a 6, .inl (k 0, 4, .inl vrooms)), (a 7, .inl (k 2, 6, .inl vis))] ++ wSA k (a 8) (a 9) (a 10) (a 11) (a 12) (a 13) (a 14) (a 15) n farm amount mark place number paid blamed
abbrev xMR (k : Nat → ClassId) (a : Nat → Nat) (rr : Nat → Nat) (today : Int32) (vc : Int32) (rounds : Int32) (und : Int32) (nb : Int32) (vrooms : Nat → Int32) (vis : Nat → Int32) (nf : Int32) (rooms : Nat → Int32) (tanks : Nat → Int32) (cows : Nat → Int32) (bst : Nat → Nat → Int32) : va_W := oMR a today vc rounds und nb :: (wFA k (a 1) (a 2) (a 3) (a 4) (a 5) rr nf rooms tanks cows bst ++ [(a 6, .inl (k 0, 4, .inl vrooms)), (a 7, .inl (k 2, 6, .inl vis))])
abbrev wMR (k : Nat → ClassId) (a : Nat → Nat) (rr : Nat → Nat) (today : Int32) (vc : Int32) (rounds : Int32) (und : Int32) (nb : Int32) (vrooms : Nat → Int32) (vis : Nat → Int32) (nf : Int32) (rooms : Nat → Int32) (tanks : Nat → Int32) (cows : Nat → Int32) (bst : Nat → Nat → Int32) (n : Int32) (farm : Nat → Int32) (amount : Nat → Int32) (mark : Nat → Int32) (place : Nat → Int32) (number : Nat → Int32) (paid : Nat → Int32) (blamed : Nat → Int32) : va_W := oMR a today vc rounds und nb :: (wFA k (a 1) (a 2) (a 3) (a 4) (a 5) rr nf rooms tanks cows bst ++ yMR k a vrooms vis n farm amount mark place number paid blamed)
abbrev wMO (k : Nat → ClassId) (a : Nat → Nat) (day : Int32) (rooms : Nat → Int32) (tanks : Nat → Int32) (bests : Nat → Int32) (cows : Nat → Int32) (nf : Int32) (vrooms : Nat → Int32) (inv : Nat → Int32) (vsh : Nat → Int32) (nv : Int32) (und : Int32) (vis : Nat → Int32) (rounds : Int32) (intk : Int32) (farm : Nat → Int32) (amount : Nat → Int32) (mark : Nat → Int32) (ways : Nat → Int32) (n : Int32) (nb : Int32) (thr : Int32) : va_W := [(a 0, .inr (3, [.int day, .ref (a 1), .ref (a 2), .ref (a 3), .ref (a 4), .int nf, .ref (a 5), .ref (a 6), .ref (a 7), .int nv, .int und, .ref (a 8), .int rounds, .int intk, .ref (a 9), .ref (a 10), .ref (a 11), .ref (a 12), .int n, .int nb, .int thr])), (a 1, .inl (k 0, 6, .inl rooms)), (a 2, .inl (k 0, 6, .inl tanks)), (a 3, .inl (k 0, 30, .inl bests)), (a 4, .inl (k 0, 6, .inl cows)), (a 5, .inl (k 0, 4, .inl vrooms)), (a 6, .inl (k 0, 4, .inl inv)), (a 7, .inl (k 0, 4, .inl vsh)), (a 8, .inl (k 2, 6, .inl vis)), (a 9, .inl (k 0, 100, .inl farm)), (a 10, .inl (k 0, 100, .inl amount)), (a 11, .inl (k 1, 100, .inl mark)), (a 12, .inl (k 0, 100, .inl ways))]
theorem wFA_row {k : Nat → ClassId} {h : Nat} {a0 : Nat} {a1 : Nat} {a2 : Nat} {a3 : Nat} {rr : Nat → Nat} {nf : Int32} {rooms : Nat → Int32} {tanks : Nat → Int32} {cows : Nat → Int32} {bst : Nat → Nat → Int32} {j : Nat} (hj : j < 6) : (wFA k h a0 a1 a2 a3 rr nf rooms tanks cows bst)[5 + j]? = some (rr j, .inl (k 0, 5, .inl (bst j))) := by
  rcases (show j = 0 ∨ j = 1 ∨ j = 2 ∨ j = 3 ∨ j = 4 ∨ j = 5 by omega) with rfl | rfl | rfl | rfl | rfl | rfl <;> rfl
theorem wFA_set {k : Nat → ClassId} {h : Nat} {a0 : Nat} {a1 : Nat} {a2 : Nat} {a3 : Nat} {rr : Nat → Nat} {nf : Int32} {rooms : Nat → Int32} {tanks : Nat → Int32} {cows : Nat → Int32} {bst : Nat → Nat → Int32} {j : Nat} (hj : j < 6) (r : Nat → Int32) : (wFA k h a0 a1 a2 a3 rr nf rooms tanks cows bst).set (5 + j) (rr j, .inl (k 0, 5, .inl r)) = wFA k h a0 a1 a2 a3 rr nf rooms tanks cows (fun i => if i = j then r else bst i) := by
  rcases (show j = 0 ∨ j = 1 ∨ j = 2 ∨ j = 3 ∨ j = 4 ∨ j = 5 by omega) with rfl | rfl | rfl | rfl | rfl | rfl <;> rfl
theorem nI_inc (n : Nat) : nI n + Int32.ofInt 1 = nI (n + 1) := nI_1 n
theorem nI_incN (n m : Nat) : nI n + nI m = nI (n + m) := nI_add n m
def kB (b : Bool) : Int32 := if b then 1 else 0
theorem kB_f {b : Bool} (h : kB b = 0) : b = false := by cases b; rfl; exact absurd h (by decide)
theorem kB_t {b : Bool} (h : ¬ kB b = 0) : b = true := by cases b; exact absurd rfl h; rfl
theorem kB_z (b : Bool) : narrow .boolean (.int (kB b)) = .int (kB b) := by cases b <;> rfl
theorem kB_n (b : Bool) : vp_nar .boolean (kB b) = kB b := by cases b <;> rfl
def sI (p : Nat → Bool) (f : Nat → Int32) : Nat → Int32 | 0 => 0 | n + 1 => sI p f n + (if p n then f n else 0)
theorem sI_t {p : Nat → Bool} {f : Nat → Int32} {i : Nat} (h : p i = true) : sI p f i + f i = sI p f (i + 1) := by simp [sI, h]
theorem sI_f {p : Nat → Bool} {f : Nat → Int32} {i : Nat} (h : p i = false) : sI p f i = sI p f (i + 1) := by simp [sI, h]
def sL (p : Nat → Bool) (f : Nat → Int64) : Nat → Int64 | 0 => 0 | n + 1 => sL p f n + (if p n then f n else 0)
theorem sL_t {p : Nat → Bool} {f : Nat → Int64} {i : Nat} (h : p i = true) : sL p f i + f i = sL p f (i + 1) := by simp [sL, h]
theorem sL_f {p : Nat → Bool} {f : Nat → Int64} {i : Nat} (h : p i = false) : sL p f i = sL p f (i + 1) := by simp [sL, h]
def aB (p : Nat → Bool) : Nat → Bool | 0 => true | n + 1 => aB p n && p n
theorem aB_t {p : Nat → Bool} {i : Nat} (h : aB p i = true) (h2 : p i = true) : aB p (i + 1) = true := by simp [aB, h, h2]
theorem aB_f {p : Nat → Bool} {i : Nat} (h : p i = false) : ∀ {n : Nat}, i < n → aB p n = false
  | 0, q => absurd q (Nat.not_lt_zero _)
  | n + 1, q => by
    rcases Nat.lt_or_ge i n with h1 | h1
    · simp [aB, aB_f h h1]
    · rw [show n = i by omega]
      simp [aB, h]
theorem aB_iff {p : Nat → Bool} : ∀ {n : Nat}, aB p n = true ↔ ∀ i, i < n → p i = true
  | 0 => ⟨fun _ i h => absurd h (Nat.not_lt_zero _), fun _ => rfl⟩
  | n + 1 => by
    rw [aB, Bool.and_eq_true, aB_iff]
    refine ⟨fun h i hi => ?_, fun h => ⟨fun i hi => h i (by omega), h n (by omega)⟩⟩
    rcases Nat.lt_or_ge i n with h1 | h1
    · exact h.1 i h1
    · rw [show i = n by omega]
      exact h.2
def wr (p : Nat → Bool) (v f : Nat → Int32) (i : Nat) : Nat → Int32 := fun j => if j < i ∧ p j = true then v j else f j
theorem wr_0 (p : Nat → Bool) (v f : Nat → Int32) : wr p v f 0 = f := by funext j; simp [wr]
theorem wr_at (p : Nat → Bool) (v f : Nat → Int32) (i : Nat) : wr p v f i i = f i := by simp [wr]
theorem wr_t {p : Nat → Bool} {v f : Nat → Int32} {i : Nat} (h : p i = true) : upd (wr p v f i) i (v i) = wr p v f (i + 1) := by
  funext j
  by_cases e : j = i
  · subst e
    simp [upd, wr, h]
  · simp only [upd, wr, if_neg e]
    by_cases h2 : j < i
    · simp [h2, Nat.lt_succ_of_lt h2]
    · simp [h2, show ¬ j < i + 1 by omega]
theorem wr_f {p : Nat → Bool} {v f : Nat → Int32} {i : Nat} (h : p i = false) : wr p v f i = wr p v f (i + 1) := by
  funext j
  simp only [wr]
  by_cases e : j = i
  · subst e
    simp [h]
  · by_cases h2 : j < i
    · simp [h2, Nat.lt_succ_of_lt h2]
    · simp [h2, show ¬ j < i + 1 by omega]
def cIn (place number : Nat → Int32) (wh wi : Int32) (j : Nat) : Bool := decide (place j = wh) && decide (number j = wi)
def cSp (mark place number : Nat → Int32) (b : Int32) (j : Nat) : Bool := decide (mark j = 120) && cIn place number 98 b j
def cUn (mark place number : Nat → Int32) (b : Int32) (j : Nat) : Bool := !(decide (mark j = 45) && cIn place number 98 b j)
def absI (t : Int32) : Int32 := if 0 ≤ t then t else 0 - t
def rem10 (d : Int32) : Int32 := d - d / 10 * 10
def milkC (b d : Int32) : Int32 := if 5 < b - absI (5 - rem10 d) then b - absI (5 - rem10 d) else 5
def milkF (row : Nat → Int32) (d : Int32) (c : Nat) : Int32 := sI (fun _ => true) (fun i => milkC (row i) d) c
def minI (x y : Int32) : Int32 := if y < x then y else x
def kpt (rooms tanks : Nat → Int32) (bst : Nat → Nat → Int32) (cw : Nat → Nat) (d : Int32) (j : Nat) : Int32 := minI (milkF (bst j) d (cw j)) (rooms j - tanks j)
def tkF (rooms tanks : Nat → Int32) (bst : Nat → Nat → Int32) (cw : Nat → Nat) (d : Int32) (nf : Nat) : Nat → Int32 := wr (fun _ => true) (fun j => tanks j + kpt rooms tanks bst cw d j) tanks nf
def poF (rooms tanks : Nat → Int32) (bst : Nat → Nat → Int32) (cw : Nat → Nat) (d : Int32) (nf : Nat) : Int32 := sI (fun _ => true) (fun j => milkF (bst j) d (cw j) - kpt rooms tanks bst cw d j) nf
def tkD (rooms tanks : Nat → Int32) (bst : Nat → Nat → Int32) (cw : Nat → Nat) (dy nf : Nat) : Nat → Nat → Int32 | 0 => tanks | t + 1 => tkF rooms (tkD rooms tanks bst cw dy nf t) bst cw (nI (dy + t + 1)) nf
def poD (rooms tanks : Nat → Int32) (bst : Nat → Nat → Int32) (cw : Nat → Nat) (dy nf : Nat) : Nat → Int32 | 0 => 0 | t + 1 => poD rooms tanks bst cw dy nf t + poF rooms (tkD rooms tanks bst cw dy nf t) bst cw (nI (dy + t + 1)) nf
def cents (g : Int32) : Int32 := if g = 97 then 40 else if g = 98 then 34 else if g = 99 then 25 else 0
def sh (p : Nat → Bool) (idx : Int32) : Nat → Int32 | 0 => -1 | n + 1 => if sh p idx n = -1 then (if p n = true ∧ sI p (fun _ => 1) n = idx then nI n else -1) else sh p idx n
theorem sh_n {p : Nat → Bool} {idx : Int32} {i : Nat} (h : sh p idx i = -1) (h2 : ¬ (p i = true ∧ sI p (fun _ => 1) i = idx)) : sh p idx (i + 1) = -1 := by rw [sh, if_pos h, if_neg h2]
theorem nI_neg1 {n : Nat} (h : n < 2 ^ 31) : ¬ nI n = -1 := fun q => nI_pos h (by rw [q]; decide)
theorem sh_y {p : Nat → Bool} {idx : Int32} {i : Nat} (hi : i < 2 ^ 31) (h : sh p idx i = -1) (h1 : p i = true) (h2 : sI p (fun _ => 1) i = idx) : ∀ d : Nat, sh p idx (i + 1 + d) = nI i
  | 0 => by rw [Nat.add_zero, sh, if_pos h, if_pos ⟨h1, h2⟩]
  | d + 1 => by rw [← Nat.add_assoc, sh, sh_y hi h h1 h2 d, if_neg (nI_neg1 hi)]
theorem sh_lt {p : Nat → Bool} {idx : Int32} {i n : Nat} (hi : i < 2 ^ 31) (h : sh p idx i = -1) (h1 : p i = true) (h2 : sI p (fun _ => 1) i = idx) (hn : i < n) : sh p idx n = nI i := by
  have := sh_y hi h h1 h2 (n - (i + 1))
  rwa [show i + 1 + (n - (i + 1)) = n by omega] at this
def lf (p : Nat → Bool) (L0 : Int32) : Nat → Int32 | 0 => L0 | i + 1 => if p i = true ∧ 0 < lf p L0 i then lf p L0 i + (-1) else lf p L0 i
theorem lf_stop {p : Nat → Bool} {L0 : Int32} {i : Nat} (h : ¬ 0 < lf p L0 i) : ∀ d : Nat, lf p L0 (i + d) = lf p L0 i
  | 0 => rfl
  | d + 1 => by rw [← Nat.add_assoc, lf, lf_stop h d, if_neg (fun q => h q.2)]
def pl (p : Nat → Bool) (L0 : Int32) (j : Nat) : Bool := p j && decide (0 < lf p L0 j)
theorem wr_stop {p : Nat → Bool} {L0 : Int32} {v f : Nat → Int32} {i : Nat} (h : ¬ 0 < lf p L0 i) {n : Nat} (hn : i ≤ n) : wr (pl p L0) v f i = wr (pl p L0) v f n := by
  funext j
  simp only [wr]
  by_cases h1 : j < i
  · simp [h1, Nat.lt_of_lt_of_le h1 hn]
  · have hz : pl p L0 j = false := by
      have := lf_stop h (j - i)
      rw [show i + (j - i) = j by omega] at this
      simp [pl, this, h]
    simp [hz]
def spl (mark place number amount : Nat → Int32) (b : Int32) (n : Nat) : Int32 := sI (cSp mark place number b) amount n
def valB (mark place number amount : Nat → Int32) (b : Int32) (n : Nat) : Int32 := sI (cIn place number 98 b) (fun j => amount j * cents (mark j)) n
def lossB (mark place number amount : Nat → Int32) (b : Int32) (n : Nat) : Int32 := if 0 < spl mark place number amount b n then valB mark place number amount b n else 0
def inTk (place number amount : Nat → Int32) (n : Nat) : Int32 := sI (cIn place number 116 0) amount n
def inVt (place number amount : Nat → Int32) (v : Int32) (n : Nat) : Int32 := sI (cIn place number 118 v) amount n
def bvS (fr : Nat → Int32) (need : Int32) : Nat → Int32 × Int32 | 0 => (-1, 0) | v + 1 => if ¬ fr v < need ∧ ((bvS fr need v).1 < 0 ∨ fr v < (bvS fr need v).2) then (nI v, fr v) else bvS fr need v
def payB (mark place number amount : Nat → Int32) (b : Int32) (n : Nat) : Int32 := if 0 < spl mark place number amount b n then 0 else valB mark place number amount b n
theorem i32_sss (a b c : Int32) : a - b - c = a - (b + c) := by rw [Int32.sub_eq_add_neg, Int32.sub_eq_add_neg, Int32.sub_eq_add_neg, Int32.neg_add, Int32.sub_eq_add_neg, Int32.add_assoc]
def grB (mark place number : Nat → Int32) (b : Int32) (n : Nat) : Bool := aB (cUn mark place number b) n
def bl1 (mark place number amount blamed : Nat → Int32) (b sp lost : Int32) (n : Nat) : Nat → Int32 := wr (cSp mark place number b) (fun j => lost * amount j / sp) blamed n
def lft (mark place number amount : Nat → Int32) (b sp lost : Int32) (n : Nat) : Int32 := lost - sI (cSp mark place number b) (fun j => lost * amount j / sp) n
def bl2 (mark place number amount blamed : Nat → Int32) (b sp : Int32) (n : Nat) : Nat → Int32 := wr (pl (cSp mark place number b) (lft mark place number amount b sp (valB mark place number amount b n) n)) (fun j => bl1 mark place number amount blamed b sp (valB mark place number amount b n) n j + 1) (bl1 mark place number amount blamed b sp (valB mark place number amount b n) n) n
def stO (mark place number amount : Nat → Int32) (b : Int32) (n : Nat) : Int32 := if 0 < spl mark place number amount b n then 120 else if grB mark place number b n = true then 103 else 119
def stP (mark place number amount paid : Nat → Int32) (b : Int32) (n : Nat) : Nat → Int32 := if grB mark place number b n = true ∧ ¬ 0 < spl mark place number amount b n then wr (cIn place number 98 b) (fun j => amount j * cents (mark j)) paid n else paid
def stB (mark place number amount blamed : Nat → Int32) (b : Int32) (n : Nat) : Nat → Int32 := if grB mark place number b n = true ∧ 0 < spl mark place number amount b n then bl2 mark place number amount blamed b (spl mark place number amount b n) n else blamed
theorem cf_X0_init : kCI yX0_init cX0_init 1 0 := ⟨q_29, q_28, q_2, rfl, ⟨by decide, by decide⟩, by decide +kernel⟩
theorem cf_X0_add : kCF yX0_add cX0_add 2 (some .int) 1 := ⟨q_244, q_243, qs_3, q_2, ⟨by decide, by decide⟩, by decide +kernel⟩
theorem cf_X0_addCowTo : kCF yX0_addCowTo cX0_addCowTo 3 (some .int) 2 := ⟨q_298, q_297, qs_5, q_2, ⟨by decide, by decide⟩, by decide +kernel⟩
theorem cf_X0_milkOn : kCF yX0_milkOn cX0_milkOn 5 (some .int) 2 := ⟨q_310, q_309, qs_6, q_2, ⟨by decide, by decide⟩, by decide +kernel⟩
theorem cf_X0_milkOfCow : kCS yX0_milkOfCow cX0_milkOfCow 2 (some .int) 2 := ⟨q_313, q_312, q_2, ⟨by decide, by decide⟩, by decide +kernel⟩
theorem cf_X0_milkAll : kCF yX0_milkAll cX0_milkAll 6 (some .int) 1 := ⟨q_338, q_337, qs_7, q_2, ⟨by decide, by decide⟩, by decide +kernel⟩
theorem cf_X0_draw : kCF yX0_draw cX0_draw 4 (some .int) 2 := ⟨q_374, q_373, qs_8, q_2, ⟨by decide, by decide⟩, by decide +kernel⟩
theorem cf_X1_init : kCI yX1_init cX1_init 1 0 := ⟨q_57, q_56, q_3, rfl, ⟨by decide, by decide⟩, by decide +kernel⟩
theorem cf_X1_add : kCF yX1_add cX1_add 3 none 2 := ⟨q_378, q_377, qs_9, q_3, ⟨by decide, by decide⟩, by decide +kernel⟩
theorem cf_X1_isIn : kCF yX1_isIn cX1_isIn 4 (some .boolean) 3 := ⟨q_135, q_134, qs_1, q_3, ⟨by decide, by decide⟩, by decide +kernel⟩
theorem cf_X1_move : kCF yX1_move cX1_move 6 none 4 := ⟨q_424, q_423, qs_13, q_3, ⟨by decide, by decide⟩, by decide +kernel⟩
theorem cf_X1_countIn : kCF yX1_countIn cX1_countIn 5 (some .int) 2 := ⟨q_419, q_418, qs_12, q_3, ⟨by decide, by decide⟩, by decide +kernel⟩
theorem cf_X1_litresIn : kCF yX1_litresIn cX1_litresIn 5 (some .int) 2 := ⟨q_131, q_130, qs_0, q_3, ⟨by decide, by decide⟩, by decide +kernel⟩
theorem cf_X1_allLitres : kCF yX1_allLitres cX1_allLitres 3 (some .int) 0 := ⟨q_657, q_656, qs_33, q_3, ⟨by decide, by decide⟩, by decide +kernel⟩
theorem cf_X1_ungraded : kCF yX1_ungraded cX1_ungraded 3 (some .int) 0 := ⟨q_528, q_527, qs_23, q_3, ⟨by decide, by decide⟩, by decide +kernel⟩
theorem cf_X1_shareAt : kCF yX1_shareAt cX1_shareAt 5 (some .int) 2 := ⟨q_563, q_562, qs_26, q_3, ⟨by decide, by decide⟩, by decide +kernel⟩
theorem cf_X1_isGraded : kCF yX1_isGraded cX1_isGraded 3 (some .boolean) 1 := ⟨q_469, q_468, qs_15, q_3, ⟨by decide, by decide⟩, by decide +kernel⟩
theorem cf_X1_isSpoilt : kCF yX1_isSpoilt cX1_isSpoilt 2 (some .boolean) 1 := ⟨q_551, q_550, qs_25, q_3, ⟨by decide, by decide⟩, by decide +kernel⟩
theorem cf_X1_isSpoiltIn : kCF yX1_isSpoiltIn cX1_isSpoiltIn 3 (some .boolean) 2 := ⟨q_477, q_476, qs_17, q_3, ⟨by decide, by decide⟩, by decide +kernel⟩
theorem cf_X1_spoiltLitres : kCF yX1_spoiltLitres cX1_spoiltLitres 4 (some .int) 1 := ⟨q_473, q_472, qs_16, q_3, ⟨by decide, by decide⟩, by decide +kernel⟩
theorem cf_X1_centsALitre : kCS yX1_centsALitre cX1_centsALitre 1 (some .int) 1 := ⟨q_492, q_491, q_3, ⟨by decide, by decide⟩, by decide +kernel⟩
theorem cf_X1_valueOfSample : kCF yX1_valueOfSample cX1_valueOfSample 2 (some .int) 1 := ⟨q_489, q_488, qs_20, q_3, ⟨by decide, by decide⟩, by decide +kernel⟩
theorem cf_X1_valueOf : kCF yX1_valueOf cX1_valueOf 4 (some .int) 1 := ⟨q_485, q_484, qs_19, q_3, ⟨by decide, by decide⟩, by decide +kernel⟩
theorem cf_X1_payOfAll : kCF yX1_payOfAll cX1_payOfAll 2 (some .int) 1 := ⟨q_580, q_579, qs_28, q_3, ⟨by decide, by decide⟩, by decide +kernel⟩
theorem cf_X1_lossOf : kCF yX1_lossOf cX1_lossOf 2 (some .int) 1 := ⟨q_592, q_591, qs_29, q_3, ⟨by decide, by decide⟩, by decide +kernel⟩
theorem cf_X1_settle : kCF yX1_settle cX1_settle 3 none 1 := ⟨q_465, q_464, qs_14, q_3, ⟨by decide, by decide⟩, by decide +kernel⟩
theorem cf_X1_settlePay : kCF yX1_settlePay cX1_settlePay 3 none 1 := ⟨q_496, q_495, qs_21, q_3, ⟨by decide, by decide⟩, by decide +kernel⟩
theorem cf_X1_settleBlame : kCF yX1_settleBlame cX1_settleBlame 6 none 2 := ⟨q_481, q_480, qs_18, q_3, ⟨by decide, by decide⟩, by decide +kernel⟩
theorem cf_X1_paidTo : kCF yX1_paidTo cX1_paidTo 5 (some .int) 2 := ⟨q_603, q_602, qs_30, q_3, ⟨by decide, by decide⟩, by decide +kernel⟩
theorem cf_X1_blamedOn : kCF yX1_blamedOn cX1_blamedOn 5 (some .int) 2 := ⟨q_614, q_613, qs_31, q_3, ⟨by decide, by decide⟩, by decide +kernel⟩
theorem cf_X1_balanceOf : kCF yX1_balanceOf cX1_balanceOf 5 (some .long) 1 := ⟨q_625, q_624, qs_32, q_3, ⟨by decide, by decide⟩, by decide +kernel⟩
theorem cf_X2_init : kCI yX2_init cX2_init 1 0 := ⟨q_21, q_20, q_1, rfl, ⟨by decide, by decide⟩, by decide +kernel⟩
theorem cf_X2_addFarm : kCF yX2_addFarm cX2_addFarm 2 (some .int) 1 := ⟨q_152, q_150, q_151, q_1, ⟨by decide, by decide⟩, by decide +kernel⟩
theorem cf_X2_addCow : kCF yX2_addCow cX2_addCow 3 (some .int) 2 := ⟨q_275, q_273, q_274, q_1, ⟨by decide, by decide⟩, by decide +kernel⟩
theorem cf_X2_milkOf : kCF yX2_milkOf cX2_milkOf 3 (some .int) 2 := ⟨q_305, q_303, q_304, q_1, ⟨by decide, by decide⟩, by decide +kernel⟩
theorem cf_X2_inTank : kCF yX2_inTank cX2_inTank 2 (some .int) 1 := ⟨q_326, q_324, q_325, q_1, ⟨by decide, by decide⟩, by decide +kernel⟩
theorem cf_X2_pass : kCF yX2_pass cX2_pass 4 (some .int) 1 := ⟨q_333, q_331, q_332, q_1, ⟨by decide, by decide⟩, by decide +kernel⟩
theorem cf_X2_day : kCF yX2_day cX2_day 1 (some .int) 0 := ⟨q_123, q_121, q_122, q_1, ⟨by decide, by decide⟩, by decide +kernel⟩
theorem cf_X2_addVat : kCF yX2_addVat cX2_addVat 2 (some .int) 1 := ⟨q_349, q_347, q_348, q_1, ⟨by decide, by decide⟩, by decide +kernel⟩
theorem cf_X2_beginRound : kCF yX2_beginRound cX2_beginRound 2 (some .int) 0 := ⟨q_358, q_356, q_357, q_1, ⟨by decide, by decide⟩, by decide +kernel⟩
theorem cf_X2_visit : kCF yX2_visit cX2_visit 3 (some .int) 1 := ⟨q_366, q_364, q_365, q_1, ⟨by decide, by decide⟩, by decide +kernel⟩
theorem cf_X2_endRound : kCF yX2_endRound cX2_endRound 2 (some .int) 1 := ⟨q_386, q_384, q_385, q_1, ⟨by decide, by decide⟩, by decide +kernel⟩
theorem cf_X2_inTanker : kCF yX2_inTanker cX2_inTanker 1 (some .int) 0 := ⟨q_127, q_125, q_126, q_1, ⟨by decide, by decide⟩, by decide +kernel⟩
theorem cf_X2_inVat : kCF yX2_inVat cX2_inVat 2 (some .int) 1 := ⟨q_399, q_397, q_398, q_1, ⟨by decide, by decide⟩, by decide +kernel⟩
theorem cf_X2_bestVat : kCF yX2_bestVat cX2_bestVat 6 (some .int) 0 := ⟨q_436, q_434, q_435, q_1, ⟨by decide, by decide⟩, by decide +kernel⟩
theorem cf_X2_close : kCF yX2_close cX2_close 3 (some .int) 1 := ⟨q_459, q_457, q_458, q_1, ⟨by decide, by decide⟩, by decide +kernel⟩
theorem cf_X2_samples : kCF yX2_samples cX2_samples 1 (some .int) 0 := ⟨q_139, q_137, q_138, q_1, ⟨by decide, by decide⟩, by decide +kernel⟩
theorem cf_X2_farmOf : kCF yX2_farmOf cX2_farmOf 2 (some .int) 1 := ⟨q_503, q_501, q_502, q_1, ⟨by decide, by decide⟩, by decide +kernel⟩
theorem cf_X2_litres : kCF yX2_litres cX2_litres 2 (some .int) 1 := ⟨q_515, q_513, q_514, q_1, ⟨by decide, by decide⟩, by decide +kernel⟩
theorem cf_X2_grade : kCF yX2_grade cX2_grade 3 (some .int) 2 := ⟨q_522, q_520, q_521, q_1, ⟨by decide, by decide⟩, by decide +kernel⟩
theorem cf_X2_gradeOf : kCF yX2_gradeOf cX2_gradeOf 2 (some .char) 1 := ⟨q_535, q_533, q_534, q_1, ⟨by decide, by decide⟩, by decide +kernel⟩
theorem cf_X2_batches : kCF yX2_batches cX2_batches 1 (some .int) 0 := ⟨q_143, q_141, q_142, q_1, ⟨by decide, by decide⟩, by decide +kernel⟩
theorem cf_X2_stateOf : kCF yX2_stateOf cX2_stateOf 2 (some .char) 1 := ⟨q_542, q_540, q_541, q_1, ⟨by decide, by decide⟩, by decide +kernel⟩
theorem cf_X2_share : kCF yX2_share cX2_share 4 (some .int) 2 := ⟨q_559, q_557, q_558, q_1, ⟨by decide, by decide⟩, by decide +kernel⟩
theorem cf_X2_worth : kCF yX2_worth cX2_worth 2 (some .int) 1 := ⟨q_571, q_569, q_570, q_1, ⟨by decide, by decide⟩, by decide +kernel⟩
theorem cf_X2_loss : kCF yX2_loss cX2_loss 2 (some .int) 1 := ⟨q_588, q_586, q_587, q_1, ⟨by decide, by decide⟩, by decide +kernel⟩
theorem cf_X2_pay : kCF yX2_pay cX2_pay 5 (some .long) 1 := ⟨q_599, q_597, q_598, q_1, ⟨by decide, by decide⟩, by decide +kernel⟩
theorem cf_X2_blame : kCF yX2_blame cX2_blame 5 (some .long) 1 := ⟨q_610, q_608, q_609, q_1, ⟨by decide, by decide⟩, by decide +kernel⟩
theorem cf_X2_balanceBySamples : kCF yX2_balanceBySamples cX2_balanceBySamples 2 (some .long) 1 := ⟨q_621, q_619, q_620, q_1, ⟨by decide, by decide⟩, by decide +kernel⟩
theorem cf_X2_wayOf : kCF yX2_wayOf cX2_wayOf 2 (some .char) 1 := ⟨q_632, q_630, q_631, q_1, ⟨by decide, by decide⟩, by decide +kernel⟩
theorem cf_X2_spoiltShare : kCF yX2_spoiltShare cX2_spoiltShare 4 (some .float) 0 := ⟨q_653, q_651, q_652, q_1, ⟨by decide, by decide⟩, by decide +kernel⟩
theorem cf_X2_meanPay : kCF yX2_meanPay cX2_meanPay 6 (some .double) 0 := ⟨q_667, q_665, q_666, q_1, ⟨by decide, by decide⟩, by decide +kernel⟩
theorem cf_X2_freeRoom : kCF yX2_freeRoom cX2_freeRoom 2 (some .int) 1 := ⟨q_395, q_394, qs_11, q_1, ⟨by decide, by decide⟩, by decide +kernel⟩
theorem cf_X2_requireFarm : kCF yX2_requireFarm cX2_requireFarm 2 none 1 := ⟨q_279, q_278, qs_4, q_1, ⟨by decide, by decide⟩, by decide +kernel⟩
theorem cf_X2_requireVat : kCF yX2_requireVat cX2_requireVat 2 none 1 := ⟨q_390, q_389, qs_10, q_1, ⟨by decide, by decide⟩, by decide +kernel⟩
theorem cf_X2_requireSample : kCF yX2_requireSample cX2_requireSample 2 none 1 := ⟨q_507, q_506, qs_22, q_1, ⟨by decide, by decide⟩, by decide +kernel⟩
theorem cf_X2_requireBatch : kCF yX2_requireBatch cX2_requireBatch 2 none 1 := ⟨q_546, q_545, qs_24, q_1, ⟨by decide, by decide⟩, by decide +kernel⟩
theorem cf_X2_requireGradedBatch : kCF yX2_requireGradedBatch cX2_requireGradedBatch 2 none 1 := ⟨q_575, q_574, qs_27, q_1, ⟨by decide, by decide⟩, by decide +kernel⟩
theorem cf_X3_init : kCI yX3_init cX3_init 1 0 := ⟨q_673, q_672, q_4, rfl, ⟨by decide, by decide⟩, by decide +kernel⟩
theorem cf_X3_thrown : kCF yX3_thrown cX3_thrown 1 (some .int) 0 := ⟨q_742, q_740, q_741, q_4, ⟨by decide, by decide⟩, by decide +kernel⟩
theorem cf_X3_in : kCS yX3_in cX3_in 6 (some .boolean) 3 := ⟨q_751, q_750, q_4, ⟨by decide, by decide⟩, by decide +kernel⟩
theorem cf_X3_addFarm : kCF yX3_addFarm cX3_addFarm 2 (some .int) 1 := ⟨q_746, q_744, q_745, q_4, ⟨by decide, by decide⟩, by decide +kernel⟩
theorem cf_X3_isFarm : kCF yX3_isFarm cX3_isFarm 2 (some .boolean) 1 := ⟨q_759, q_758, qs_34, q_4, ⟨by decide, by decide⟩, by decide +kernel⟩
theorem cf_X3_addCow : kCF yX3_addCow cX3_addCow 3 (some .int) 2 := ⟨q_755, q_753, q_754, q_4, ⟨by decide, by decide⟩, by decide +kernel⟩
theorem cf_X3_gives : kCS yX3_gives cX3_gives 4 (some .int) 2 := ⟨q_769, q_768, q_4, ⟨by decide, by decide⟩, by decide +kernel⟩
theorem cf_X3_milkOf : kCF yX3_milkOf cX3_milkOf 5 (some .int) 2 := ⟨q_765, q_763, q_764, q_4, ⟨by decide, by decide⟩, by decide +kernel⟩
theorem cf_X3_inTank : kCF yX3_inTank cX3_inTank 2 (some .int) 1 := ⟨q_773, q_771, q_772, q_4, ⟨by decide, by decide⟩, by decide +kernel⟩
theorem cf_X3_pass : kCF yX3_pass cX3_pass 9 (some .int) 1 := ⟨q_777, q_775, q_776, q_4, ⟨by decide, by decide⟩, by decide +kernel⟩
theorem cf_X3_day : kCF yX3_day cX3_day 1 (some .int) 0 := ⟨q_781, q_779, q_780, q_4, ⟨by decide, by decide⟩, by decide +kernel⟩
theorem cf_X3_addVat : kCF yX3_addVat cX3_addVat 2 (some .int) 1 := ⟨q_785, q_783, q_784, q_4, ⟨by decide, by decide⟩, by decide +kernel⟩
theorem cf_X3_beginRound : kCF yX3_beginRound cX3_beginRound 2 (some .int) 0 := ⟨q_791, q_789, q_790, q_4, ⟨by decide, by decide⟩, by decide +kernel⟩
theorem cf_X3_visit : kCF yX3_visit cX3_visit 4 (some .int) 1 := ⟨q_795, q_793, q_794, q_4, ⟨by decide, by decide⟩, by decide +kernel⟩
theorem cf_X3_isVat : kCF yX3_isVat cX3_isVat 2 (some .boolean) 1 := ⟨q_803, q_802, qs_35, q_4, ⟨by decide, by decide⟩, by decide +kernel⟩
theorem cf_X3_onWay : kCF yX3_onWay cX3_onWay 4 (some .int) 1 := ⟨q_807, q_806, qs_36, q_4, ⟨by decide, by decide⟩, by decide +kernel⟩
theorem cf_X3_endRound : kCF yX3_endRound cX3_endRound 4 (some .int) 1 := ⟨q_799, q_797, q_798, q_4, ⟨by decide, by decide⟩, by decide +kernel⟩
theorem cf_X3_inTanker : kCF yX3_inTanker cX3_inTanker 1 (some .int) 0 := ⟨q_811, q_809, q_810, q_4, ⟨by decide, by decide⟩, by decide +kernel⟩
theorem cf_X3_inVat : kCF yX3_inVat cX3_inVat 2 (some .int) 1 := ⟨q_815, q_813, q_814, q_4, ⟨by decide, by decide⟩, by decide +kernel⟩
theorem cf_X3_bestVat : kCF yX3_bestVat cX3_bestVat 5 (some .int) 0 := ⟨q_819, q_817, q_818, q_4, ⟨by decide, by decide⟩, by decide +kernel⟩
theorem cf_X3_close : kCF yX3_close cX3_close 3 (some .int) 1 := ⟨q_823, q_821, q_822, q_4, ⟨by decide, by decide⟩, by decide +kernel⟩
theorem cf_X3_samples : kCF yX3_samples cX3_samples 1 (some .int) 0 := ⟨q_827, q_825, q_826, q_4, ⟨by decide, by decide⟩, by decide +kernel⟩
theorem cf_X3_isSample : kCF yX3_isSample cX3_isSample 2 (some .boolean) 1 := ⟨q_835, q_834, qs_37, q_4, ⟨by decide, by decide⟩, by decide +kernel⟩
theorem cf_X3_farmOf : kCF yX3_farmOf cX3_farmOf 2 (some .int) 1 := ⟨q_831, q_829, q_830, q_4, ⟨by decide, by decide⟩, by decide +kernel⟩
theorem cf_X3_litres : kCF yX3_litres cX3_litres 2 (some .int) 1 := ⟨q_839, q_837, q_838, q_4, ⟨by decide, by decide⟩, by decide +kernel⟩
theorem cf_X3_grade : kCF yX3_grade cX3_grade 6 (some .int) 2 := ⟨q_843, q_841, q_842, q_4, ⟨by decide, by decide⟩, by decide +kernel⟩
theorem cf_X3_gradeOf : kCF yX3_gradeOf cX3_gradeOf 2 (some .char) 1 := ⟨q_847, q_845, q_846, q_4, ⟨by decide, by decide⟩, by decide +kernel⟩
theorem cf_X3_batches : kCF yX3_batches cX3_batches 1 (some .int) 0 := ⟨q_851, q_849, q_850, q_4, ⟨by decide, by decide⟩, by decide +kernel⟩
theorem cf_X3_has : kCF yX3_has cX3_has 5 (some .boolean) 2 := ⟨q_863, q_862, qs_39, q_4, ⟨by decide, by decide⟩, by decide +kernel⟩
theorem cf_X3_isBatch : kCF yX3_isBatch cX3_isBatch 2 (some .boolean) 1 := ⟨q_859, q_858, qs_38, q_4, ⟨by decide, by decide⟩, by decide +kernel⟩
theorem cf_X3_stateOf : kCF yX3_stateOf cX3_stateOf 2 (some .char) 1 := ⟨q_855, q_853, q_854, q_4, ⟨by decide, by decide⟩, by decide +kernel⟩
theorem cf_X3_share : kCF yX3_share cX3_share 5 (some .int) 2 := ⟨q_867, q_865, q_866, q_4, ⟨by decide, by decide⟩, by decide +kernel⟩
theorem cf_X3_worthOf : kCF yX3_worthOf cX3_worthOf 3 (some .int) 1 := ⟨q_883, q_882, qs_42, q_4, ⟨by decide, by decide⟩, by decide +kernel⟩
theorem cf_X3_payOf : kCF yX3_payOf cX3_payOf 2 (some .int) 1 := ⟨q_879, q_878, qs_41, q_4, ⟨by decide, by decide⟩, by decide +kernel⟩
theorem cf_X3_lossOf : kCF yX3_lossOf cX3_lossOf 4 (some .int) 1 := ⟨q_891, q_890, qs_43, q_4, ⟨by decide, by decide⟩, by decide +kernel⟩
theorem cf_X3_blameOf : kCF yX3_blameOf cX3_blameOf 9 (some .int) 1 := ⟨q_908, q_907, qs_45, q_4, ⟨by decide, by decide⟩, by decide +kernel⟩
theorem cf_X3_isGraded : kCF yX3_isGraded cX3_isGraded 2 (some .boolean) 1 := ⟨q_875, q_874, qs_40, q_4, ⟨by decide, by decide⟩, by decide +kernel⟩
theorem cf_X3_worth : kCF yX3_worth cX3_worth 4 (some .int) 1 := ⟨q_871, q_869, q_870, q_4, ⟨by decide, by decide⟩, by decide +kernel⟩
theorem cf_X3_loss : kCF yX3_loss cX3_loss 2 (some .int) 1 := ⟨q_887, q_885, q_886, q_4, ⟨by decide, by decide⟩, by decide +kernel⟩
theorem cf_X3_counts : kCF yX3_counts cX3_counts 3 (some .boolean) 2 := ⟨q_900, q_899, qs_44, q_4, ⟨by decide, by decide⟩, by decide +kernel⟩
theorem cf_X3_pay : kCF yX3_pay cX3_pay 5 (some .long) 1 := ⟨q_895, q_893, q_894, q_4, ⟨by decide, by decide⟩, by decide +kernel⟩
theorem cf_X3_blame : kCF yX3_blame cX3_blame 5 (some .long) 1 := ⟨q_904, q_902, q_903, q_4, ⟨by decide, by decide⟩, by decide +kernel⟩
theorem cf_X3_balanceBySamples : kCF yX3_balanceBySamples cX3_balanceBySamples 2 (some .long) 1 := ⟨q_912, q_910, q_911, q_4, ⟨by decide, by decide⟩, by decide +kernel⟩
theorem cf_X3_wayOf : kCF yX3_wayOf cX3_wayOf 2 (some .char) 1 := ⟨q_918, q_916, q_917, q_4, ⟨by decide, by decide⟩, by decide +kernel⟩
theorem cf_X3_spoiltShare : kCF yX3_spoiltShare cX3_spoiltShare 4 (some .float) 0 := ⟨q_922, q_920, q_921, q_4, ⟨by decide, by decide⟩, by decide +kernel⟩
theorem cf_X3_meanPay : kCF yX3_meanPay cX3_meanPay 5 (some .double) 0 := ⟨q_926, q_924, q_925, q_4, ⟨by decide, by decide⟩, by decide +kernel⟩
theorem cf_L_addFarm : kCH yL_addFarm cL_addFarm 4 (some .int) [(0, 9, 12, 13), (0, 9, 15, 15)] 3 := ⟨q_146, q_145, q_0, ⟨by decide, by decide⟩, by decide +kernel⟩
theorem cf_L_addCow : kCH yL_addCow cL_addCow 5 (some .int) [(0, 10, 13, 21), (0, 10, 17, 13), (0, 10, 21, 15)] 4 := ⟨q_247, q_246, q_0, ⟨by decide, by decide⟩, by decide +kernel⟩
theorem cf_L_milkOf : kCH yL_milkOf cL_milkOf 5 (some .int) [(0, 10, 13, 21), (0, 10, 17, 13)] 4 := ⟨q_301, q_300, q_0, ⟨by decide, by decide⟩, by decide +kernel⟩
theorem cf_L_inTank : kCH yL_inTank cL_inTank 4 (some .int) [(0, 9, 12, 21)] 3 := ⟨q_322, q_321, q_0, ⟨by decide, by decide⟩, by decide +kernel⟩
theorem cf_L_pass : kCH yL_pass cL_pass 4 (some .int) [(0, 9, 12, 13)] 3 := ⟨q_329, q_328, q_0, ⟨by decide, by decide⟩, by decide +kernel⟩
theorem cf_L_addVat : kCH yL_addVat cL_addVat 4 (some .int) [(0, 9, 12, 13), (0, 9, 15, 15)] 3 := ⟨q_345, q_344, q_0, ⟨by decide, by decide⟩, by decide +kernel⟩
theorem cf_L_beginRound : kCH yL_beginRound cL_beginRound 3 (some .int) [(0, 8, 11, 15)] 2 := ⟨q_354, q_353, q_0, ⟨by decide, by decide⟩, by decide +kernel⟩
theorem cf_L_visit : kCH yL_visit cL_visit 4 (some .int) [(0, 9, 12, 21), (0, 9, 15, 15)] 3 := ⟨q_362, q_361, q_0, ⟨by decide, by decide⟩, by decide +kernel⟩
theorem cf_L_endRound : kCH yL_endRound cL_endRound 4 (some .int) [(0, 9, 12, 21), (0, 9, 15, 15), (0, 9, 18, 45)] 3 := ⟨q_381, q_380, q_0, ⟨by decide, by decide⟩, by decide +kernel⟩
theorem cf_L_inVat : kCH yL_inVat cL_inVat 4 (some .int) [(0, 9, 12, 21)] 3 := ⟨q_427, q_426, q_0, ⟨by decide, by decide⟩, by decide +kernel⟩
theorem cf_L_bestVat : kCH yL_bestVat cL_bestVat 3 (some .int) [(0, 8, 11, 53)] 2 := ⟨q_431, q_430, q_0, ⟨by decide, by decide⟩, by decide +kernel⟩
theorem cf_L_close : kCH yL_close cL_close 4 (some .int) [(0, 9, 12, 21), (0, 9, 15, 45), (0, 9, 18, 15)] 3 := ⟨q_455, q_454, q_0, ⟨by decide, by decide⟩, by decide +kernel⟩
theorem cf_L_farmOf : kCH yL_farmOf cL_farmOf 4 (some .int) [(0, 9, 12, 21)] 3 := ⟨q_499, q_498, q_0, ⟨by decide, by decide⟩, by decide +kernel⟩
theorem cf_L_litres : kCH yL_litres cL_litres 4 (some .int) [(0, 9, 12, 21)] 3 := ⟨q_511, q_510, q_0, ⟨by decide, by decide⟩, by decide +kernel⟩
theorem cf_L_grade : kCH yL_grade cL_grade 5 (some .int) [(0, 10, 13, 21), (0, 10, 17, 13), (0, 10, 21, 15)] 4 := ⟨q_518, q_517, q_0, ⟨by decide, by decide⟩, by decide +kernel⟩
theorem cf_L_gradeOf : kCH yL_gradeOf cL_gradeOf 4 (some .int) [(0, 9, 12, 21)] 3 := ⟨q_531, q_530, q_0, ⟨by decide, by decide⟩, by decide +kernel⟩
theorem cf_L_stateOf : kCH yL_stateOf cL_stateOf 4 (some .int) [(0, 9, 12, 21)] 3 := ⟨q_538, q_537, q_0, ⟨by decide, by decide⟩, by decide +kernel⟩
theorem cf_L_share : kCH yL_share cL_share 5 (some .int) [(0, 10, 13, 21), (0, 10, 17, 53)] 4 := ⟨q_555, q_554, q_0, ⟨by decide, by decide⟩, by decide +kernel⟩
theorem cf_L_worth : kCH yL_worth cL_worth 4 (some .int) [(0, 9, 12, 21), (0, 9, 15, 45)] 3 := ⟨q_567, q_566, q_0, ⟨by decide, by decide⟩, by decide +kernel⟩
theorem cf_L_loss : kCH yL_loss cL_loss 4 (some .int) [(0, 9, 12, 21), (0, 9, 15, 45)] 3 := ⟨q_584, q_583, q_0, ⟨by decide, by decide⟩, by decide +kernel⟩
theorem cf_L_pay : kCH yL_pay cL_pay 4 (some .int) [(0, 8, 11, 21)] 3 := ⟨q_595, q_594, q_0, ⟨by decide, by decide⟩, by decide +kernel⟩
theorem cf_L_blame : kCH yL_blame cL_blame 4 (some .int) [(0, 8, 11, 21)] 3 := ⟨q_606, q_605, q_0, ⟨by decide, by decide⟩, by decide +kernel⟩
theorem cf_L_balanceBySamples : kCH yL_balanceBySamples cL_balanceBySamples 4 (some .int) [(0, 8, 11, 21)] 3 := ⟨q_617, q_616, q_0, ⟨by decide, by decide⟩, by decide +kernel⟩
theorem cf_L_wayOf : kCH yL_wayOf cL_wayOf 4 (some .int) [(0, 9, 12, 21)] 3 := ⟨q_628, q_627, q_0, ⟨by decide, by decide⟩, by decide +kernel⟩
theorem cf_L_spoiltShare : kCH yL_spoiltShare cL_spoiltShare 3 (some .int) [(0, 8, 11, 101)] 2 := ⟨q_635, q_634, q_0, ⟨by decide, by decide⟩, by decide +kernel⟩
theorem cf_L_meanPay : kCH yL_meanPay cL_meanPay 3 (some .int) [(0, 7, 10, 101)] 2 := ⟨q_663, q_662, q_0, ⟨by decide, by decide⟩, by decide +kernel⟩
theorem gx_IllegalArgumentException : ∀ w ∈ (vx_atS RX2 52 "java/lang/IllegalArgumentException" ["java/lang/RuntimeException", "java/lang/Exception"]).filter goodWord, w ∈ lw_all := fun w h => List.mem_filter.mpr ⟨(show ∀ w ∈ (vx_atS RX2 52 "java/lang/IllegalArgumentException" ["java/lang/RuntimeException", "java/lang/Exception"]).filter goodWord, w ∈ lw_tbl by decide +kernel) w h, (List.mem_filter.mp h).2⟩
theorem bx_IllegalArgumentException : ∀ w ∈ (vx_atS RX2 52 "java/lang/IllegalArgumentException" ["java/lang/RuntimeException", "java/lang/Exception"]).filter (fun w => !goodWord w), w ∈ kBadW := by decide +kernel
theorem ox_IllegalArgumentException : ∀ w ∈ Cond.classLink RX2 48 "java/lang/IllegalArgumentException" :: Cond.initialized "java/lang/IllegalArgumentException" :: (vx_atS RX2 52 "java/lang/IllegalArgumentException" ["java/lang/RuntimeException", "java/lang/Exception"]), vx_ot w = true := by decide +kernel
theorem gx_IllegalStateException : ∀ w ∈ (vx_atS RX2 62 "java/lang/IllegalStateException" ["java/lang/RuntimeException", "java/lang/Exception"]).filter goodWord, w ∈ lw_all := fun w h => List.mem_filter.mpr ⟨(show ∀ w ∈ (vx_atS RX2 62 "java/lang/IllegalStateException" ["java/lang/RuntimeException", "java/lang/Exception"]).filter goodWord, w ∈ lw_tbl by decide +kernel) w h, (List.mem_filter.mp h).2⟩
theorem bx_IllegalStateException : ∀ w ∈ (vx_atS RX2 62 "java/lang/IllegalStateException" ["java/lang/RuntimeException", "java/lang/Exception"]).filter (fun w => !goodWord w), w ∈ kBadW := by decide +kernel
theorem ox_IllegalStateException : ∀ w ∈ Cond.classLink RX2 58 "java/lang/IllegalStateException" :: Cond.initialized "java/lang/IllegalStateException" :: (vx_atS RX2 62 "java/lang/IllegalStateException" ["java/lang/RuntimeException", "java/lang/Exception"]), vx_ot w = true := by decide +kernel
theorem gx_IndexOutOfBoundsException : ∀ w ∈ (vx_atS RX2 231 "java/lang/IndexOutOfBoundsException" ["java/lang/RuntimeException", "java/lang/Exception"]).filter goodWord, w ∈ lw_all := fun w h => List.mem_filter.mpr ⟨(show ∀ w ∈ (vx_atS RX2 231 "java/lang/IndexOutOfBoundsException" ["java/lang/RuntimeException", "java/lang/Exception"]).filter goodWord, w ∈ lw_tbl by decide +kernel) w h, (List.mem_filter.mp h).2⟩
theorem bx_IndexOutOfBoundsException : ∀ w ∈ (vx_atS RX2 231 "java/lang/IndexOutOfBoundsException" ["java/lang/RuntimeException", "java/lang/Exception"]).filter (fun w => !goodWord w), w ∈ kBadW := by decide +kernel
theorem ox_IndexOutOfBoundsException : ∀ w ∈ Cond.classLink RX2 227 "java/lang/IndexOutOfBoundsException" :: Cond.initialized "java/lang/IndexOutOfBoundsException" :: (vx_atS RX2 231 "java/lang/IndexOutOfBoundsException" ["java/lang/RuntimeException", "java/lang/Exception"]), vx_ot w = true := by decide +kernel
theorem gx_UnsupportedOperationException : ∀ w ∈ (vx_atS RX2 128 "java/lang/UnsupportedOperationException" ["java/lang/RuntimeException", "java/lang/Exception"]).filter goodWord, w ∈ lw_all := fun w h => List.mem_filter.mpr ⟨(show ∀ w ∈ (vx_atS RX2 128 "java/lang/UnsupportedOperationException" ["java/lang/RuntimeException", "java/lang/Exception"]).filter goodWord, w ∈ lw_tbl by decide +kernel) w h, (List.mem_filter.mp h).2⟩
theorem bx_UnsupportedOperationException : ∀ w ∈ (vx_atS RX2 128 "java/lang/UnsupportedOperationException" ["java/lang/RuntimeException", "java/lang/Exception"]).filter (fun w => !goodWord w), w ∈ kBadW := by decide +kernel
theorem ox_UnsupportedOperationException : ∀ w ∈ Cond.classLink RX2 124 "java/lang/UnsupportedOperationException" :: Cond.initialized "java/lang/UnsupportedOperationException" :: (vx_atS RX2 128 "java/lang/UnsupportedOperationException" ["java/lang/RuntimeException", "java/lang/Exception"]), vx_ot w = true := by decide +kernel
theorem gx_ArithmeticException : ∀ w ∈ (vx_atS RX2 224 "java/lang/ArithmeticException" ["java/lang/RuntimeException", "java/lang/Exception"]).filter goodWord, w ∈ lw_all := fun w h => List.mem_filter.mpr ⟨(show ∀ w ∈ (vx_atS RX2 224 "java/lang/ArithmeticException" ["java/lang/RuntimeException", "java/lang/Exception"]).filter goodWord, w ∈ lw_tbl by decide +kernel) w h, (List.mem_filter.mp h).2⟩
theorem bx_ArithmeticException : ∀ w ∈ (vx_atS RX2 224 "java/lang/ArithmeticException" ["java/lang/RuntimeException", "java/lang/Exception"]).filter (fun w => !goodWord w), w ∈ kBadW := by decide +kernel
theorem ox_ArithmeticException : ∀ w ∈ Cond.classLink RX2 220 "java/lang/ArithmeticException" :: Cond.initialized "java/lang/ArithmeticException" :: (vx_atS RX2 224 "java/lang/ArithmeticException" ["java/lang/RuntimeException", "java/lang/Exception"]), vx_ot w = true := by decide +kernel
