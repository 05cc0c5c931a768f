set_option maxRecDepth 100000 in
set_option maxHeartbeats 4000000 in
theorem m_X2_bestVat_n (l : Launch) (D : va_G) (k : Nat → ClassId) (a : Nat → Nat) (rr : Nat → Nat) (dy : Nat) (nv : Nat) (rounds : Int32) (ub : Bool) (nb : Nat) (vrooms : Nat → Int32) (vis : Nat → Int32) (nf : Nat) (rooms : Nat → Int32) (tanks : Nat → Int32) (cows : Nat → Int32) (bst : Nat → Nat → Int32) (n : Nat) (farm : Nat → Int32) (amount : Nat → Int32) (mark : Nat → Int32) (place : Nat → Int32) (number : Nat → Int32) (paid : Nat → Int32) (blamed : Nat → Int32) (hlt : l.stackTraces = false) (hnv : nv ≤ 4) (hn : n ≤ 100) (h0 : ¬ 0 ≤ (bvS (fun zv => vrooms zv - inVt place number amount (nI zv) n) (inTk place number amount n) nv).1) : mX l yX2_bestVat cX2_bestVat 6 (some .int) 9 163 1 6 D (kTy k) [.ref (a 0)] (wMR k a rr (nI dy) (nI nv) rounds (kB ub) (nI nb) vrooms vis (nI nf) rooms tanks cows bst (nI n) farm amount mark place number paid blamed) (.inr "java/util/NoSuchElementException") := by
  refine mX.of (lv' := [(0, .ref (a 0))]) (by decide) (Nat.le_of_ble_eq_true rfl) rfl ?_
  intro p e s m args below meth c E hr hlk hex hZ hA
  have L12 : ∀ (dn12 : Nat) (i : Nat) (x : Int32) (y : Int32), i + dn12 = nv → ((x, y) = bvS (fun zv => vrooms zv - inVt place number amount (nI zv) n) (inTk place number amount n) i) → kJ p l e (kRmc 9 163 1 6) s m args below meth c (gW D (va_A (wMR k a rr (nI dy) (nI nv) rounds (kB ub) (nI nb) vrooms vis (nI nf) rooms tanks cows bst (nI n) farm amount mark place number paid blamed) s.heap.size) s.heap) 6 0 0 (vx_MQ below (kXq (.inr "java/util/NoSuchElementException") D (wMR k a rr (nI dy) (nI nv) rounds (kB ub) (nI nb) vrooms vis (nI nf) rooms tanks cows bst (nI n) farm amount mark place number paid blamed) s.heap.size) (kXc (.inr "java/util/NoSuchElementException") D (wMR k a rr (nI dy) (nI nv) rounds (kB ub) (nI nb) vrooms vis (nI nf) rooms tanks cows bst (nI n) farm amount mark place number paid blamed) s.heap.size) args s 1 6 (va_A (wMR k a rr (nI dy) (nI nv) rounds (kB ub) (nI nb) vrooms vis (nI nf) rooms tanks cows bst (nI n) farm amount mark place number paid blamed) s.heap.size)) (wMR k a rr (nI dy) (nI nv) rounds (kB ub) (nI nb) vrooms vis (nI nf) rooms tanks cows bst (nI n) farm amount mark place number paid blamed) 12 [(0, .ref (a 0)), (1, .int (inTk place number amount n)), (2, .int x), (3, .int y), (4, .int (nI i))] [] := by
    intro dn12
    induction dn12 with
    | zero =>
      intro i x y hd12 hp
      refine k_iload E 4 rfl dX2_bestVat_12 ?_
      refine k_aload_n E 0 rfl rfl dX2_bestVat_14 ?_
      refine k_get E inX2 0 rfl rfl 2 (by decide) q_94 rfl rfl dX2_bestVat_15 ?_
      refine k_icmp_ge E (tgt := 57) (by decide) dX2_bestVat_18 (fun c18 => ?_) (fun c18 => absurd ((not_congr (nI_leI (a := nv) (b := i) (by omega) (by omega))).mp c18) (by omega))
      have c18 := (nI_leI (a := nv) (b := i) (by omega) (by omega)).mp c18
      have hx9 : x = (bvS (fun zv => vrooms zv - inVt place number amount (nI zv) n) (inTk place number amount n) nv).1 := by have q9 := congrArg Prod.fst hp; rw [show i = nv by omega] at q9; exact q9
      refine k_iload_n E 2 rfl rfl dX2_bestVat_57 ?_
      refine k_if_ge E (tgt := 71) (by decide) dX2_bestVat_58 (fun c58 => absurd c58 (by rw [hx9]; exact h0)) (fun c58 => ?_)
      exact k_throwN (text := "no vat has room for what is in the tanker") E hlt hlk hex hZ rfl rfl rfl (by decide +kernel) dX2_bestVat_61 dX2_bestVat_64 dX2_bestVat_65 dX2_bestVat_67 dX2_bestVat_70 (by decide) (Nat.le_of_ble_eq_true rfl) (by decide) (by decide) (by decide) (by decide)
    | succ dn12 ih12 =>
      intro i x y hd12 hp
      refine k_iload E 4 rfl dX2_bestVat_12 ?_
      refine k_aload_n E 0 rfl rfl dX2_bestVat_14 ?_
      refine k_get E inX2 0 rfl rfl 2 (by decide) q_94 rfl rfl dX2_bestVat_15 ?_
      refine k_icmp_ge E (tgt := 57) (by decide) dX2_bestVat_18 (fun c18 => absurd ((nI_leI (a := nv) (b := i) (by omega) (by omega)).mp c18) (by omega)) (fun c18 => ?_)
      have c18 := (not_congr (nI_leI (a := nv) (b := i) (by omega) (by omega))).mp c18
      refine k_aload_n E 0 rfl rfl dX2_bestVat_21 ?_
      refine k_iload E 4 rfl dX2_bestVat_22 ?_
      refine k_callRV [.int (nI i)] E (m_X2_freeRoom l D k a rr dy nv rounds ub nb vrooms vis nf rooms tanks cows bst n farm amount mark place number paid blamed i (by first | assumption | omega) (by first | assumption | omega) (by first | assumption | omega)) cf_X2_freeRoom q_392 [0, 1, 2, 3, 4, 5, 6, 7, 8, 9, 10, 11, 12, 13, 14, 15, 16, 17, 18, 19, 20, 21] rfl 0 rfl rfl rfl rfl ⟨by decide, by decide⟩ (Nat.le_of_ble_eq_true rfl) ⟨by decide, by decide⟩ dX2_bestVat_24 ?_
      refine k_steq (st' := [.int (vrooms i - inVt place number amount (nI i) n)]) rfl ?_
      refine k_istore (lv' := [(5, .int (vrooms i - inVt place number amount (nI i) n)), (0, .ref (a 0)), (1, .int (inTk place number amount n)), (2, .int x), (3, .int y), (4, .int (nI i))]) E (by decide) rfl dX2_bestVat_27 ?_
      refine k_iload E 0 rfl dX2_bestVat_29 ?_
      refine k_iload_n E 2 rfl rfl dX2_bestVat_31 ?_
      refine k_icmp_lt E (tgt := 51) (by decide) dX2_bestVat_32 (fun c32 => ?_) (fun c32 => ?_)
      · skip
        refine k_iinc (q := 5) (v := nI (i + 1)) (lv' := [(4, .int (nI (i + 1))), (5, .int (vrooms i - inVt place number amount (nI i) n)), (0, .ref (a 0)), (1, .int (inTk place number amount n)), (2, .int x), (3, .int y)]) E rfl (nI_inc _) (by decide) rfl dX2_bestVat_51 ?_
        refine k_goto E (tgt := 12) (by decide) dX2_bestVat_54 ?_
        refine k_lv [2, 3, 4, 5, 0] rfl ?_
        exact ih12 (i + 1) x y (by omega) (by rw [bvS, ← hp]; first | (simp [c32]; done) | (simp [c32, c36]; done) | (simp [c32, c36, Int32.not_lt.mpr c42]; done) | (simp [c32, c36, Int32.not_le.mp c42]; done))
      · skip
        refine k_iload_n E 3 rfl rfl dX2_bestVat_35 ?_
        refine k_if_lt E (tgt := 45) (by decide) dX2_bestVat_36 (fun c36 => ?_) (fun c36 => ?_)
        · skip
          refine k_iload E 5 rfl dX2_bestVat_45 ?_
          refine k_istore_n (lv' := [(2, .int (nI i)), (5, .int (vrooms i - inVt place number amount (nI i) n)), (0, .ref (a 0)), (1, .int (inTk place number amount n)), (3, .int y), (4, .int (nI i))]) E rfl (by decide) rfl dX2_bestVat_47 ?_
          refine k_iload E 1 rfl dX2_bestVat_48 ?_
          refine k_istore_n (lv' := [(3, .int (vrooms i - inVt place number amount (nI i) n)), (2, .int (nI i)), (5, .int (vrooms i - inVt place number amount (nI i) n)), (0, .ref (a 0)), (1, .int (inTk place number amount n)), (4, .int (nI i))]) E rfl (by decide) rfl dX2_bestVat_50 ?_
          refine k_iinc (q := 5) (v := nI (i + 1)) (lv' := [(4, .int (nI (i + 1))), (3, .int (vrooms i - inVt place number amount (nI i) n)), (2, .int (nI i)), (5, .int (vrooms i - inVt place number amount (nI i) n)), (0, .ref (a 0)), (1, .int (inTk place number amount n))]) E rfl (nI_inc _) (by decide) rfl dX2_bestVat_51 ?_
          refine k_goto E (tgt := 12) (by decide) dX2_bestVat_54 ?_
          refine k_lv [4, 5, 2, 1, 0] rfl ?_
          exact ih12 (i + 1) (nI i) (vrooms i - inVt place number amount (nI i) n) (by omega) (by rw [bvS, ← hp]; first | (simp [c32]; done) | (simp [c32, c36]; done) | (simp [c32, c36, Int32.not_lt.mpr c42]; done) | (simp [c32, c36, Int32.not_le.mp c42]; done))
        · skip
          refine k_iload E 0 rfl dX2_bestVat_39 ?_
          refine k_iload_n E 4 rfl rfl dX2_bestVat_41 ?_
          refine k_icmp_ge E (tgt := 51) (by decide) dX2_bestVat_42 (fun c42 => ?_) (fun c42 => ?_)
          · skip
            refine k_iinc (q := 5) (v := nI (i + 1)) (lv' := [(4, .int (nI (i + 1))), (5, .int (vrooms i - inVt place number amount (nI i) n)), (0, .ref (a 0)), (1, .int (inTk place number amount n)), (2, .int x), (3, .int y)]) E rfl (nI_inc _) (by decide) rfl dX2_bestVat_51 ?_
            refine k_goto E (tgt := 12) (by decide) dX2_bestVat_54 ?_
            refine k_lv [2, 3, 4, 5, 0] rfl ?_
            exact ih12 (i + 1) x y (by omega) (by rw [bvS, ← hp]; first | (simp [c32]; done) | (simp [c32, c36]; done) | (simp [c32, c36, Int32.not_lt.mpr c42]; done) | (simp [c32, c36, Int32.not_le.mp c42]; done))
          · skip
            refine k_iload E 5 rfl dX2_bestVat_45 ?_
            refine k_istore_n (lv' := [(2, .int (nI i)), (5, .int (vrooms i - inVt place number amount (nI i) n)), (0, .ref (a 0)), (1, .int (inTk place number amount n)), (3, .int y), (4, .int (nI i))]) E rfl (by decide) rfl dX2_bestVat_47 ?_
            refine k_iload E 1 rfl dX2_bestVat_48 ?_
            refine k_istore_n (lv' := [(3, .int (vrooms i - inVt place number amount (nI i) n)), (2, .int (nI i)), (5, .int (vrooms i - inVt place number amount (nI i) n)), (0, .ref (a 0)), (1, .int (inTk place number amount n)), (4, .int (nI i))]) E rfl (by decide) rfl dX2_bestVat_50 ?_
            refine k_iinc (q := 5) (v := nI (i + 1)) (lv' := [(4, .int (nI (i + 1))), (3, .int (vrooms i - inVt place number amount (nI i) n)), (2, .int (nI i)), (5, .int (vrooms i - inVt place number amount (nI i) n)), (0, .ref (a 0)), (1, .int (inTk place number amount n))]) E rfl (nI_inc _) (by decide) rfl dX2_bestVat_51 ?_
            refine k_goto E (tgt := 12) (by decide) dX2_bestVat_54 ?_
            refine k_lv [4, 5, 2, 1, 0] rfl ?_
            exact ih12 (i + 1) (nI i) (vrooms i - inVt place number amount (nI i) n) (by omega) (by rw [bvS, ← hp]; first | (simp [c32]; done) | (simp [c32, c36]; done) | (simp [c32, c36, Int32.not_lt.mpr c42]; done) | (simp [c32, c36, Int32.not_le.mp c42]; done))
  refine k_aload_n E 0 rfl rfl dX2_bestVat_0 ?_
  refine k_callRV [] E (m_X2_inTanker l D k a rr dy nv rounds ub nb vrooms vis nf rooms tanks cows bst n farm amount mark place number paid blamed (by first | assumption | omega)) cf_X2_inTanker q_370 [0, 1, 2, 3, 4, 5, 6, 7, 8, 9, 10, 11, 12, 13, 14, 15, 16, 17, 18, 19, 20, 21] rfl 0 rfl rfl rfl rfl ⟨by decide, by decide⟩ (Nat.le_of_ble_eq_true rfl) ⟨by decide, by decide⟩ dX2_bestVat_1 ?_
  refine k_steq (st' := [.int (inTk place number amount n)]) rfl ?_
  refine k_istore_n (lv' := [(1, .int (inTk place number amount n)), (0, .ref (a 0))]) E rfl (by decide) rfl dX2_bestVat_4 ?_
  refine k_iconst E (v := (-1)) (by decide) dX2_bestVat_5 ?_
  refine k_istore_n (lv' := [(2, .int (-1)), (1, .int (inTk place number amount n)), (0, .ref (a 0))]) E rfl (by decide) rfl dX2_bestVat_6 ?_
  refine k_iconst E (v := 0) (by decide) dX2_bestVat_7 ?_
  refine k_istore_n (lv' := [(3, .int 0), (2, .int (-1)), (1, .int (inTk place number amount n)), (0, .ref (a 0))]) E rfl (by decide) rfl dX2_bestVat_8 ?_
  refine k_iconst E (v := 0) (by decide) dX2_bestVat_9 ?_
  refine k_istore (lv' := [(4, .int 0), (3, .int 0), (2, .int (-1)), (1, .int (inTk place number amount n)), (0, .ref (a 0))]) E (by decide) rfl dX2_bestVat_10 ?_
  refine k_lv [4, 3, 2, 1, 0] rfl ?_
  exact L12 (nv - 0) 0 (-1) 0 (by omega) rfl
set_option maxRecDepth 100000 in
set_option maxHeartbeats 4000000 in
theorem m_X2_share_n (l : Launch) (D : va_G) (k : Nat → ClassId) (a : Nat → Nat) (rr : Nat → Nat) (dy : Nat) (nv : Nat) (rounds : Int32) (ub : Bool) (nb : Nat) (vrooms : Nat → Int32) (vis : Nat → Int32) (nf : Nat) (rooms : Nat → Int32) (tanks : Nat → Int32) (cows : Nat → Int32) (bst : Nat → Nat → Int32) (n : Nat) (farm : Nat → Int32) (amount : Nat → Int32) (mark : Nat → Int32) (place : Nat → Int32) (number : Nat → Int32) (paid : Nat → Int32) (blamed : Nat → Int32) (j : Nat) (ix : Int32) (hlt : l.stackTraces = false) (hj : j < nb) (hnb : nb ≤ 20) (hn : n ≤ 100) (h0 : ¬ 0 ≤ sh (cIn place number 98 (nI j)) ix n) : mX l yX2_share cX2_share 4 (some .int) 7 121 1 6 D (kTy k) [.ref (a 0), .int (nI j), .int ix] (wMR k a rr (nI dy) (nI nv) rounds (kB ub) (nI nb) vrooms vis (nI nf) rooms tanks cows bst (nI n) farm amount mark place number paid blamed) (.inr "java/util/NoSuchElementException") := by
  refine mX.of (lv' := [(0, .ref (a 0)), (1, .int (nI j)), (2, .int ix)]) (by decide) (Nat.le_of_ble_eq_true rfl) rfl ?_
  intro p e s m args below meth c E hr hlk hex hZ hA
  refine k_aload_n E 0 rfl rfl dX2_share_0 ?_
  refine k_iload_n E 1 rfl rfl dX2_share_1 ?_
  refine k_callRV [.int (nI j)] E (m_X2_requireBatch l D k a rr dy nv rounds ub nb vrooms vis nf rooms tanks cows bst n farm amount mark place number paid blamed j (by first | assumption | omega) (by first | assumption | omega)) cf_X2_requireBatch q_543 [0, 1, 2, 3, 4, 5, 6, 7, 8, 9, 10, 11, 12, 13, 14, 15, 16, 17, 18, 19, 20, 21] rfl 0 rfl rfl rfl rfl ⟨by decide, by decide⟩ (Nat.le_of_ble_eq_true rfl) ⟨by decide, by decide⟩ dX2_share_2 ?_
  refine k_steq (st' := []) rfl ?_
  refine k_aload_n E 0 rfl rfl dX2_share_5 ?_
  refine k_get E inX2 0 rfl rfl 7 (by decide) q_99 rfl rfl dX2_share_6 ?_
  refine k_iload_n E 1 rfl rfl dX2_share_9 ?_
  refine k_iload_n E 2 rfl rfl dX2_share_10 ?_
  refine k_callRVN [.int (nI j), .int ix] E (m_X1_shareAt l D k (a 8) (a 9) (a 10) (a 11) (a 12) (a 13) (a 14) (a 15) n farm amount mark place number paid blamed (nI j) ix (by first | assumption | omega)) cf_X1_shareAt rfl (by decide +kernel) [14, 15, 16, 17, 18, 19, 20, 21] rfl 14 rfl rfl rfl rfl ⟨by decide, by decide⟩ (Nat.le_of_ble_eq_true rfl) ⟨by decide, by decide⟩ dX2_share_11 ?_
  refine k_steq (st' := [.int (sh (cIn place number 98 (nI j)) ix n)]) rfl ?_
  refine k_istore_n (lv' := [(3, .int (sh (cIn place number 98 (nI j)) ix n)), (0, .ref (a 0)), (1, .int (nI j)), (2, .int ix)]) E rfl (by decide) rfl dX2_share_14 ?_
  refine k_iload_n E 0 rfl rfl dX2_share_15 ?_
  refine k_if_ge E (tgt := 29) (by decide) dX2_share_16 (fun c16 => absurd c16 h0) (fun c16 => ?_)
  exact k_throwN (text := "the batch has no such share") E hlt hlk hex hZ rfl rfl rfl (by decide +kernel) dX2_share_19 dX2_share_22 dX2_share_23 dX2_share_25 dX2_share_28 (by decide) (Nat.le_of_ble_eq_true rfl) (by decide) (by decide) (by decide) (by decide)
