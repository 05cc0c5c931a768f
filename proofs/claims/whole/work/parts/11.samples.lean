set_option maxRecDepth 100000 in
set_option maxHeartbeats 4000000 in
theorem m_X1_isIn (l : Launch) (D : va_G) (k : Nat → ClassId) (h : Nat) (a0 : Nat) (a1 : Nat) (a2 : Nat) (a3 : Nat) (a4 : Nat) (a5 : Nat) (a6 : Nat) (n : Nat) (farm : Nat → Int32) (amount : Nat → Int32) (mark : Nat → Int32) (place : Nat → Int32) (number : Nat → Int32) (paid : Nat → Int32) (blamed : Nat → Int32) (j : Nat) (wh : Int32) (wi : Int32) (hj : j < 100) : mR l yX1_isIn cX1_isIn 4 (some .boolean) 0 0 D (kTy k) [.ref h, .int (nI j), .int wh, .int wi] (wSA k h a0 a1 a2 a3 a4 a5 a6 (nI n) farm amount mark place number paid blamed) (some (.int (kB (cIn place number wh wi j)))) := by
  refine mR.of (lv' := [(0, .ref h), (1, .int (nI j)), (2, .int wh), (3, .int wi)]) (by decide) (Nat.le_of_ble_eq_true rfl) rfl ?_
  intro p e s m args below meth c E hr hlk
  refine k_aload_n E 0 rfl rfl dX1_isIn_0 ?_
  refine k_get E inX1 0 rfl rfl 4 (by decide) q_67 rfl rfl dX1_isIn_1 ?_
  refine k_iload_n E 1 rfl rfl dX1_isIn_4 ?_
  refine k_cald E (j := j) 4 1 rfl rfl rfl (by omega) (by decide) dX1_isIn_5 ?_
  refine k_iload_n E 2 rfl rfl dX1_isIn_6 ?_
  refine k_icmp_ne E (tgt := 24) (by decide) dX1_isIn_7 (fun c7 => ?_) (fun c7 => ?_)
  · skip
    refine k_iconst E (v := 0) (by decide) dX1_isIn_24 ?_
    exact kr_zret E hr hlk rfl (by simp [kB, cIn, *]) dX1_isIn_25
  · skip
    refine k_aload_n E 0 rfl rfl dX1_isIn_10 ?_
    refine k_get E inX1 0 rfl rfl 5 (by decide) q_69 rfl rfl dX1_isIn_11 ?_
    refine k_iload_n E 1 rfl rfl dX1_isIn_14 ?_
    refine k_iald E (j := j) 5 0 rfl rfl rfl (by omega) (by decide) dX1_isIn_15 ?_
    refine k_iload_n E 3 rfl rfl dX1_isIn_16 ?_
    refine k_icmp_ne E (tgt := 24) (by decide) dX1_isIn_17 (fun c17 => ?_) (fun c17 => ?_)
    · skip
      refine k_iconst E (v := 0) (by decide) dX1_isIn_24 ?_
      exact kr_zret E hr hlk rfl (by simp [kB, cIn, *]) dX1_isIn_25
    · skip
      refine k_iconst E (v := 1) (by decide) dX1_isIn_20 ?_
      refine k_goto E (tgt := 25) (by decide) dX1_isIn_21 ?_
      exact kr_zret E hr hlk rfl (by simp [kB, cIn, *]) dX1_isIn_25
set_option maxRecDepth 100000 in
set_option maxHeartbeats 4000000 in
theorem m_X1_isSpoiltIn (l : Launch) (D : va_G) (k : Nat → ClassId) (h : Nat) (a0 : Nat) (a1 : Nat) (a2 : Nat) (a3 : Nat) (a4 : Nat) (a5 : Nat) (a6 : Nat) (n : Nat) (farm : Nat → Int32) (amount : Nat → Int32) (mark : Nat → Int32) (place : Nat → Int32) (number : Nat → Int32) (paid : Nat → Int32) (blamed : Nat → Int32) (j : Nat) (b : Int32) (hj : j < 100) : mR l yX1_isSpoiltIn cX1_isSpoiltIn 3 (some .boolean) 1 23 D (kTy k) [.ref h, .int (nI j), .int b] (wSA k h a0 a1 a2 a3 a4 a5 a6 (nI n) farm amount mark place number paid blamed) (some (.int (kB (cSp mark place number b j)))) := by
  refine mR.of (lv' := [(0, .ref h), (1, .int (nI j)), (2, .int b)]) (by decide) (Nat.le_of_ble_eq_true rfl) rfl ?_
  intro p e s m args below meth c E hr hlk
  refine k_aload_n E 0 rfl rfl dX1_isSpoiltIn_0 ?_
  refine k_get E inX1 0 rfl rfl 3 (by decide) q_65 rfl rfl dX1_isSpoiltIn_1 ?_
  refine k_iload_n E 1 rfl rfl dX1_isSpoiltIn_4 ?_
  refine k_cald E (j := j) 3 1 rfl rfl rfl (by omega) (by decide) dX1_isSpoiltIn_5 ?_
  refine k_bipush E (v := 120) (by decide) dX1_isSpoiltIn_6 ?_
  refine k_icmp_ne E (tgt := 26) (by decide) dX1_isSpoiltIn_8 (fun c8 => ?_) (fun c8 => ?_)
  · skip
    refine k_iconst E (v := 0) (by decide) dX1_isSpoiltIn_26 ?_
    exact kr_zret E hr hlk rfl (by simp [kB, cSp, *]) dX1_isSpoiltIn_27
  · skip
    refine k_aload_n E 0 rfl rfl dX1_isSpoiltIn_11 ?_
    refine k_iload_n E 1 rfl rfl dX1_isSpoiltIn_12 ?_
    refine k_bipush E (v := 98) (by decide) dX1_isSpoiltIn_13 ?_
    refine k_iload_n E 2 rfl rfl dX1_isSpoiltIn_15 ?_
    refine k_callRV [.int (nI j), .int 98, .int b] E (m_X1_isIn l D k h a0 a1 a2 a3 a4 a5 a6 n farm amount mark place number paid blamed j 98 b (by first | assumption | omega)) cf_X1_isIn q_132 [0, 1, 2, 3, 4, 5, 6, 7] rfl 0 rfl rfl rfl rfl ⟨by decide, by decide⟩ (Nat.le_of_ble_eq_true rfl) ⟨by decide, by decide⟩ dX1_isSpoiltIn_16 ?_
    refine k_steq (st' := [.int (kB (cIn place number 98 b j))]) rfl ?_
    refine k_if_eq E (tgt := 26) (by decide) dX1_isSpoiltIn_19 (fun c19 => ?_) (fun c19 => ?_)
    · skip
      have c19 := kB_f c19
      refine k_iconst E (v := 0) (by decide) dX1_isSpoiltIn_26 ?_
      exact kr_zret E hr hlk rfl (by simp [kB, cSp, *]) dX1_isSpoiltIn_27
    · skip
      have c19 := kB_t c19
      refine k_iconst E (v := 1) (by decide) dX1_isSpoiltIn_22 ?_
      refine k_goto E (tgt := 27) (by decide) dX1_isSpoiltIn_23 ?_
      exact kr_zret E hr hlk rfl (by simp [kB, cSp, *]) dX1_isSpoiltIn_27
set_option maxRecDepth 100000 in
set_option maxHeartbeats 4000000 in
theorem m_X1_countIn (l : Launch) (D : va_G) (k : Nat → ClassId) (h : Nat) (a0 : Nat) (a1 : Nat) (a2 : Nat) (a3 : Nat) (a4 : Nat) (a5 : Nat) (a6 : Nat) (n : Nat) (farm : Nat → Int32) (amount : Nat → Int32) (mark : Nat → Int32) (place : Nat → Int32) (number : Nat → Int32) (paid : Nat → Int32) (blamed : Nat → Int32) (wh : Int32) (wi : Int32) (hn : n ≤ 100) : mR l yX1_countIn cX1_countIn 5 (some .int) 1 23 D (kTy k) [.ref h, .int wh, .int wi] (wSA k h a0 a1 a2 a3 a4 a5 a6 (nI n) farm amount mark place number paid blamed) (some (.int (sI (cIn place number wh wi) (fun _ => 1) n))) := by
  refine mR.of (lv' := [(0, .ref h), (1, .int wh), (2, .int wi)]) (by decide) (Nat.le_of_ble_eq_true rfl) rfl ?_
  intro p e s m args below meth c E hr hlk
  have L5 : ∀ (dn5 : Nat) (i : Nat) (x : Int32), i + dn5 = n → (x = sI (cIn place number wh wi) (fun _ => 1) i) → kJ p l e (kRm 1 23) s m args below meth c (gR D s.heap) 5 0 0 (MQ below (kQr (some (.int (sI (cIn place number wh wi) (fun _ => 1) n)))) args s 0 0 (fun _ => False)) (wSA k h a0 a1 a2 a3 a4 a5 a6 (nI n) farm amount mark place number paid blamed) 5 [(0, .ref h), (1, .int wh), (2, .int wi), (3, .int x), (4, .int (nI i))] [] := by
    intro dn5
    induction dn5 with
    | zero =>
      intro i x hd5 hx
      refine k_iload E 4 rfl dX1_countIn_5 ?_
      refine k_aload_n E 0 rfl rfl dX1_countIn_7 ?_
      refine k_get E inX1 0 rfl rfl 0 (by decide) q_59 rfl rfl dX1_countIn_8 ?_
      refine k_icmp_ge E (tgt := 34) (by decide) dX1_countIn_11 (fun c11 => ?_) (fun c11 => absurd ((not_congr (nI_leI (a := n) (b := i) (by omega) (by omega))).mp c11) (by omega))
      have c11 := (nI_leI (a := n) (b := i) (by omega) (by omega)).mp c11
      refine k_iload_n E 3 rfl rfl dX1_countIn_34 ?_
      exact kr_iret E hr hlk (by rw [hx, show i = n by omega]) dX1_countIn_35
    | succ dn5 ih5 =>
      intro i x hd5 hx
      refine k_iload E 4 rfl dX1_countIn_5 ?_
      refine k_aload_n E 0 rfl rfl dX1_countIn_7 ?_
      refine k_get E inX1 0 rfl rfl 0 (by decide) q_59 rfl rfl dX1_countIn_8 ?_
      refine k_icmp_ge E (tgt := 34) (by decide) dX1_countIn_11 (fun c11 => absurd ((nI_leI (a := n) (b := i) (by omega) (by omega)).mp c11) (by omega)) (fun c11 => ?_)
      have c11 := (not_congr (nI_leI (a := n) (b := i) (by omega) (by omega))).mp c11
      refine k_aload_n E 0 rfl rfl dX1_countIn_14 ?_
      refine k_iload E 4 rfl dX1_countIn_15 ?_
      refine k_iload_n E 1 rfl rfl dX1_countIn_17 ?_
      refine k_iload_n E 2 rfl rfl dX1_countIn_18 ?_
      refine k_callRV [.int (nI i), .int wh, .int wi] E (m_X1_isIn l D k h a0 a1 a2 a3 a4 a5 a6 n farm amount mark place number paid blamed i wh wi (by first | assumption | omega)) cf_X1_isIn q_132 [0, 1, 2, 3, 4, 5, 6, 7] rfl 0 rfl rfl rfl rfl ⟨by decide, by decide⟩ (Nat.le_of_ble_eq_true rfl) ⟨by decide, by decide⟩ dX1_countIn_19 ?_
      refine k_steq (st' := [.int (kB (cIn place number wh wi i))]) rfl ?_
      refine k_if_eq E (tgt := 28) (by decide) dX1_countIn_22 (fun c22 => ?_) (fun c22 => ?_)
      · skip
        have c22 := kB_f c22
        refine k_iinc (q := 4) (v := nI (i + 1)) (lv' := [(4, .int (nI (i + 1))), (0, .ref h), (1, .int wh), (2, .int wi), (3, .int x)]) E rfl (nI_inc _) (by decide) rfl dX1_countIn_28 ?_
        refine k_goto E (tgt := 5) (by decide) dX1_countIn_31 ?_
        refine k_lv [1, 2, 3, 4, 0] rfl ?_
        exact ih5 (i + 1) x (by omega) (by simp [sI, *])
      · skip
        have c22 := kB_t c22
        refine k_iinc (q := 3) (v := x + 1) (lv' := [(3, .int (x + 1)), (0, .ref h), (1, .int wh), (2, .int wi), (4, .int (nI i))]) E rfl rfl (by decide) rfl dX1_countIn_25 ?_
        refine k_iinc (q := 4) (v := nI (i + 1)) (lv' := [(4, .int (nI (i + 1))), (3, .int (x + 1)), (0, .ref h), (1, .int wh), (2, .int wi)]) E rfl (nI_inc _) (by decide) rfl dX1_countIn_28 ?_
        refine k_goto E (tgt := 5) (by decide) dX1_countIn_31 ?_
        refine k_lv [2, 3, 4, 1, 0] rfl ?_
        exact ih5 (i + 1) (x + 1) (by omega) (by simp [sI, *])
  refine k_iconst E (v := 0) (by decide) dX1_countIn_0 ?_
  refine k_istore_n (lv' := [(3, .int 0), (0, .ref h), (1, .int wh), (2, .int wi)]) E rfl (by decide) rfl dX1_countIn_1 ?_
  refine k_iconst E (v := 0) (by decide) dX1_countIn_2 ?_
  refine k_istore (lv' := [(4, .int 0), (3, .int 0), (0, .ref h), (1, .int wh), (2, .int wi)]) E (by decide) rfl dX1_countIn_3 ?_
  refine k_lv [2, 3, 4, 1, 0] rfl ?_
  exact L5 (n - 0) 0 0 (by omega) rfl
set_option maxRecDepth 100000 in
set_option maxHeartbeats 4000000 in
theorem m_X1_litresIn (l : Launch) (D : va_G) (k : Nat → ClassId) (h : Nat) (a0 : Nat) (a1 : Nat) (a2 : Nat) (a3 : Nat) (a4 : Nat) (a5 : Nat) (a6 : Nat) (n : Nat) (farm : Nat → Int32) (amount : Nat → Int32) (mark : Nat → Int32) (place : Nat → Int32) (number : Nat → Int32) (paid : Nat → Int32) (blamed : Nat → Int32) (wh : Int32) (wi : Int32) (hn : n ≤ 100) : mR l yX1_litresIn cX1_litresIn 5 (some .int) 1 23 D (kTy k) [.ref h, .int wh, .int wi] (wSA k h a0 a1 a2 a3 a4 a5 a6 (nI n) farm amount mark place number paid blamed) (some (.int (sI (cIn place number wh wi) amount n))) := by
  refine mR.of (lv' := [(0, .ref h), (1, .int wh), (2, .int wi)]) (by decide) (Nat.le_of_ble_eq_true rfl) rfl ?_
  intro p e s m args below meth c E hr hlk
  have L5 : ∀ (dn5 : Nat) (i : Nat) (x : Int32), i + dn5 = n → (x = sI (cIn place number wh wi) amount i) → kJ p l e (kRm 1 23) s m args below meth c (gR D s.heap) 5 0 0 (MQ below (kQr (some (.int (sI (cIn place number wh wi) amount n)))) args s 0 0 (fun _ => False)) (wSA k h a0 a1 a2 a3 a4 a5 a6 (nI n) farm amount mark place number paid blamed) 5 [(0, .ref h), (1, .int wh), (2, .int wi), (3, .int x), (4, .int (nI i))] [] := by
    intro dn5
    induction dn5 with
    | zero =>
      intro i x hd5 hx
      refine k_iload E 4 rfl dX1_litresIn_5 ?_
      refine k_aload_n E 0 rfl rfl dX1_litresIn_7 ?_
      refine k_get E inX1 0 rfl rfl 0 (by decide) q_59 rfl rfl dX1_litresIn_8 ?_
      refine k_icmp_ge E (tgt := 41) (by decide) dX1_litresIn_11 (fun c11 => ?_) (fun c11 => absurd ((not_congr (nI_leI (a := n) (b := i) (by omega) (by omega))).mp c11) (by omega))
      have c11 := (nI_leI (a := n) (b := i) (by omega) (by omega)).mp c11
      refine k_iload_n E 3 rfl rfl dX1_litresIn_41 ?_
      exact kr_iret E hr hlk (by rw [hx, show i = n by omega]) dX1_litresIn_42
    | succ dn5 ih5 =>
      intro i x hd5 hx
      refine k_iload E 4 rfl dX1_litresIn_5 ?_
      refine k_aload_n E 0 rfl rfl dX1_litresIn_7 ?_
      refine k_get E inX1 0 rfl rfl 0 (by decide) q_59 rfl rfl dX1_litresIn_8 ?_
      refine k_icmp_ge E (tgt := 41) (by decide) dX1_litresIn_11 (fun c11 => absurd ((nI_leI (a := n) (b := i) (by omega) (by omega)).mp c11) (by omega)) (fun c11 => ?_)
      have c11 := (not_congr (nI_leI (a := n) (b := i) (by omega) (by omega))).mp c11
      refine k_aload_n E 0 rfl rfl dX1_litresIn_14 ?_
      refine k_iload E 4 rfl dX1_litresIn_15 ?_
      refine k_iload_n E 1 rfl rfl dX1_litresIn_17 ?_
      refine k_iload_n E 2 rfl rfl dX1_litresIn_18 ?_
      refine k_callRV [.int (nI i), .int wh, .int wi] E (m_X1_isIn l D k h a0 a1 a2 a3 a4 a5 a6 n farm amount mark place number paid blamed i wh wi (by first | assumption | omega)) cf_X1_isIn q_132 [0, 1, 2, 3, 4, 5, 6, 7] rfl 0 rfl rfl rfl rfl ⟨by decide, by decide⟩ (Nat.le_of_ble_eq_true rfl) ⟨by decide, by decide⟩ dX1_litresIn_19 ?_
      refine k_steq (st' := [.int (kB (cIn place number wh wi i))]) rfl ?_
      refine k_if_eq E (tgt := 35) (by decide) dX1_litresIn_22 (fun c22 => ?_) (fun c22 => ?_)
      · skip
        have c22 := kB_f c22
        refine k_iinc (q := 4) (v := nI (i + 1)) (lv' := [(4, .int (nI (i + 1))), (0, .ref h), (1, .int wh), (2, .int wi), (3, .int x)]) E rfl (nI_inc _) (by decide) rfl dX1_litresIn_35 ?_
        refine k_goto E (tgt := 5) (by decide) dX1_litresIn_38 ?_
        refine k_lv [1, 2, 3, 4, 0] rfl ?_
        exact ih5 (i + 1) x (by omega) (by simp [sI, *])
      · skip
        have c22 := kB_t c22
        refine k_iload_n E 3 rfl rfl dX1_litresIn_25 ?_
        refine k_aload_n E 0 rfl rfl dX1_litresIn_26 ?_
        refine k_get E inX1 0 rfl rfl 2 (by decide) q_63 rfl rfl dX1_litresIn_27 ?_
        refine k_iload E 4 rfl dX1_litresIn_30 ?_
        refine k_iald E (j := i) 2 0 rfl rfl rfl (by omega) (by decide) dX1_litresIn_32 ?_
        refine k_iadd E dX1_litresIn_33 ?_
        refine k_istore_n (lv' := [(3, .int (x + (amount i))), (0, .ref h), (1, .int wh), (2, .int wi), (4, .int (nI i))]) E rfl (by decide) rfl dX1_litresIn_34 ?_
        refine k_iinc (q := 4) (v := nI (i + 1)) (lv' := [(4, .int (nI (i + 1))), (3, .int (x + (amount i))), (0, .ref h), (1, .int wh), (2, .int wi)]) E rfl (nI_inc _) (by decide) rfl dX1_litresIn_35 ?_
        refine k_goto E (tgt := 5) (by decide) dX1_litresIn_38 ?_
        refine k_lv [2, 3, 4, 1, 0] rfl ?_
        exact ih5 (i + 1) (x + (amount i)) (by omega) (by simp [sI, *])
  refine k_iconst E (v := 0) (by decide) dX1_litresIn_0 ?_
  refine k_istore_n (lv' := [(3, .int 0), (0, .ref h), (1, .int wh), (2, .int wi)]) E rfl (by decide) rfl dX1_litresIn_1 ?_
  refine k_iconst E (v := 0) (by decide) dX1_litresIn_2 ?_
  refine k_istore (lv' := [(4, .int 0), (3, .int 0), (0, .ref h), (1, .int wh), (2, .int wi)]) E (by decide) rfl dX1_litresIn_3 ?_
  refine k_lv [2, 3, 4, 1, 0] rfl ?_
  exact L5 (n - 0) 0 0 (by omega) rfl
set_option maxRecDepth 100000 in
set_option maxHeartbeats 4000000 in
theorem m_X1_allLitres (l : Launch) (D : va_G) (k : Nat → ClassId) (h : Nat) (a0 : Nat) (a1 : Nat) (a2 : Nat) (a3 : Nat) (a4 : Nat) (a5 : Nat) (a6 : Nat) (n : Nat) (farm : Nat → Int32) (amount : Nat → Int32) (mark : Nat → Int32) (place : Nat → Int32) (number : Nat → Int32) (paid : Nat → Int32) (blamed : Nat → Int32) (hn : n ≤ 100) : mR l yX1_allLitres cX1_allLitres 3 (some .int) 0 0 D (kTy k) [.ref h] (wSA k h a0 a1 a2 a3 a4 a5 a6 (nI n) farm amount mark place number paid blamed) (some (.int (sI (fun _ => true) amount n))) := by
  refine mR.of (lv' := [(0, .ref h)]) (by decide) (Nat.le_of_ble_eq_true rfl) rfl ?_
  intro p e s m args below meth c E hr hlk
  have L4 : ∀ (dn4 : Nat) (i : Nat) (x : Int32), i + dn4 = n → (x = sI (fun _ => true) amount i) → kJ p l e (kRm 0 0) s m args below meth c (gR D s.heap) 3 0 0 (MQ below (kQr (some (.int (sI (fun _ => true) amount n)))) args s 0 0 (fun _ => False)) (wSA k h a0 a1 a2 a3 a4 a5 a6 (nI n) farm amount mark place number paid blamed) 4 [(0, .ref h), (1, .int x), (2, .int (nI i))] [] := by
    intro dn4
    induction dn4 with
    | zero =>
      intro i x hd4 hx
      refine k_iload_n E 2 rfl rfl dX1_allLitres_4 ?_
      refine k_aload_n E 0 rfl rfl dX1_allLitres_5 ?_
      refine k_get E inX1 0 rfl rfl 0 (by decide) q_59 rfl rfl dX1_allLitres_6 ?_
      refine k_icmp_ge E (tgt := 27) (by decide) dX1_allLitres_9 (fun c9 => ?_) (fun c9 => absurd ((not_congr (nI_leI (a := n) (b := i) (by omega) (by omega))).mp c9) (by omega))
      have c9 := (nI_leI (a := n) (b := i) (by omega) (by omega)).mp c9
      refine k_iload_n E 1 rfl rfl dX1_allLitres_27 ?_
      exact kr_iret E hr hlk (by rw [hx, show i = n by omega]) dX1_allLitres_28
    | succ dn4 ih4 =>
      intro i x hd4 hx
      refine k_iload_n E 2 rfl rfl dX1_allLitres_4 ?_
      refine k_aload_n E 0 rfl rfl dX1_allLitres_5 ?_
      refine k_get E inX1 0 rfl rfl 0 (by decide) q_59 rfl rfl dX1_allLitres_6 ?_
      refine k_icmp_ge E (tgt := 27) (by decide) dX1_allLitres_9 (fun c9 => absurd ((nI_leI (a := n) (b := i) (by omega) (by omega)).mp c9) (by omega)) (fun c9 => ?_)
      have c9 := (not_congr (nI_leI (a := n) (b := i) (by omega) (by omega))).mp c9
      refine k_iload_n E 1 rfl rfl dX1_allLitres_12 ?_
      refine k_aload_n E 0 rfl rfl dX1_allLitres_13 ?_
      refine k_get E inX1 0 rfl rfl 2 (by decide) q_63 rfl rfl dX1_allLitres_14 ?_
      refine k_iload_n E 2 rfl rfl dX1_allLitres_17 ?_
      refine k_iald E (j := i) 2 0 rfl rfl rfl (by omega) (by decide) dX1_allLitres_18 ?_
      refine k_iadd E dX1_allLitres_19 ?_
      refine k_istore_n (lv' := [(1, .int (x + (amount i))), (0, .ref h), (2, .int (nI i))]) E rfl (by decide) rfl dX1_allLitres_20 ?_
      refine k_iinc (q := 2) (v := nI (i + 1)) (lv' := [(2, .int (nI (i + 1))), (1, .int (x + (amount i))), (0, .ref h)]) E rfl (nI_inc _) (by decide) rfl dX1_allLitres_21 ?_
      refine k_goto E (tgt := 4) (by decide) dX1_allLitres_24 ?_
      refine k_lv [2, 1, 0] rfl ?_
      exact ih4 (i + 1) (x + (amount i)) (by omega) (by simp [sI, *])
  refine k_iconst E (v := 0) (by decide) dX1_allLitres_0 ?_
  refine k_istore_n (lv' := [(1, .int 0), (0, .ref h)]) E rfl (by decide) rfl dX1_allLitres_1 ?_
  refine k_iconst E (v := 0) (by decide) dX1_allLitres_2 ?_
  refine k_istore_n (lv' := [(2, .int 0), (1, .int 0), (0, .ref h)]) E rfl (by decide) rfl dX1_allLitres_3 ?_
  refine k_lv [2, 1, 0] rfl ?_
  exact L4 (n - 0) 0 0 (by omega) rfl
set_option maxRecDepth 100000 in
set_option maxHeartbeats 4000000 in
theorem m_X1_ungraded (l : Launch) (D : va_G) (k : Nat → ClassId) (h : Nat) (a0 : Nat) (a1 : Nat) (a2 : Nat) (a3 : Nat) (a4 : Nat) (a5 : Nat) (a6 : Nat) (n : Nat) (farm : Nat → Int32) (amount : Nat → Int32) (mark : Nat → Int32) (place : Nat → Int32) (number : Nat → Int32) (paid : Nat → Int32) (blamed : Nat → Int32) (hn : n ≤ 100) : mR l yX1_ungraded cX1_ungraded 3 (some .int) 0 0 D (kTy k) [.ref h] (wSA k h a0 a1 a2 a3 a4 a5 a6 (nI n) farm amount mark place number paid blamed) (some (.int (sI (fun zi => decide (mark zi = 45)) (fun _ => 1) n))) := by
  refine mR.of (lv' := [(0, .ref h)]) (by decide) (Nat.le_of_ble_eq_true rfl) rfl ?_
  intro p e s m args below meth c E hr hlk
  have L4 : ∀ (dn4 : Nat) (i : Nat) (x : Int32), i + dn4 = n → (x = sI (fun zi => decide (mark zi = 45)) (fun _ => 1) i) → kJ p l e (kRm 0 0) s m args below meth c (gR D s.heap) 3 0 0 (MQ below (kQr (some (.int (sI (fun zi => decide (mark zi = 45)) (fun _ => 1) n)))) args s 0 0 (fun _ => False)) (wSA k h a0 a1 a2 a3 a4 a5 a6 (nI n) farm amount mark place number paid blamed) 4 [(0, .ref h), (1, .int x), (2, .int (nI i))] [] := by
    intro dn4
    induction dn4 with
    | zero =>
      intro i x hd4 hx
      refine k_iload_n E 2 rfl rfl dX1_ungraded_4 ?_
      refine k_aload_n E 0 rfl rfl dX1_ungraded_5 ?_
      refine k_get E inX1 0 rfl rfl 0 (by decide) q_59 rfl rfl dX1_ungraded_6 ?_
      refine k_icmp_ge E (tgt := 32) (by decide) dX1_ungraded_9 (fun c9 => ?_) (fun c9 => absurd ((not_congr (nI_leI (a := n) (b := i) (by omega) (by omega))).mp c9) (by omega))
      have c9 := (nI_leI (a := n) (b := i) (by omega) (by omega)).mp c9
      refine k_iload_n E 1 rfl rfl dX1_ungraded_32 ?_
      exact kr_iret E hr hlk (by rw [hx, show i = n by omega]) dX1_ungraded_33
    | succ dn4 ih4 =>
      intro i x hd4 hx
      refine k_iload_n E 2 rfl rfl dX1_ungraded_4 ?_
      refine k_aload_n E 0 rfl rfl dX1_ungraded_5 ?_
      refine k_get E inX1 0 rfl rfl 0 (by decide) q_59 rfl rfl dX1_ungraded_6 ?_
      refine k_icmp_ge E (tgt := 32) (by decide) dX1_ungraded_9 (fun c9 => absurd ((nI_leI (a := n) (b := i) (by omega) (by omega)).mp c9) (by omega)) (fun c9 => ?_)
      have c9 := (not_congr (nI_leI (a := n) (b := i) (by omega) (by omega))).mp c9
      refine k_aload_n E 0 rfl rfl dX1_ungraded_12 ?_
      refine k_get E inX1 0 rfl rfl 3 (by decide) q_65 rfl rfl dX1_ungraded_13 ?_
      refine k_iload_n E 2 rfl rfl dX1_ungraded_16 ?_
      refine k_cald E (j := i) 3 1 rfl rfl rfl (by omega) (by decide) dX1_ungraded_17 ?_
      refine k_bipush E (v := 45) (by decide) dX1_ungraded_18 ?_
      refine k_icmp_ne E (tgt := 26) (by decide) dX1_ungraded_20 (fun c20 => ?_) (fun c20 => ?_)
      · skip
        refine k_iinc (q := 2) (v := nI (i + 1)) (lv' := [(2, .int (nI (i + 1))), (0, .ref h), (1, .int x)]) E rfl (nI_inc _) (by decide) rfl dX1_ungraded_26 ?_
        refine k_goto E (tgt := 4) (by decide) dX1_ungraded_29 ?_
        refine k_lv [1, 2, 0] rfl ?_
        exact ih4 (i + 1) x (by omega) (by simp [sI, *])
      · skip
        refine k_iinc (q := 1) (v := x + 1) (lv' := [(1, .int (x + 1)), (0, .ref h), (2, .int (nI i))]) E rfl rfl (by decide) rfl dX1_ungraded_23 ?_
        refine k_iinc (q := 2) (v := nI (i + 1)) (lv' := [(2, .int (nI (i + 1))), (1, .int (x + 1)), (0, .ref h)]) E rfl (nI_inc _) (by decide) rfl dX1_ungraded_26 ?_
        refine k_goto E (tgt := 4) (by decide) dX1_ungraded_29 ?_
        refine k_lv [2, 1, 0] rfl ?_
        exact ih4 (i + 1) (x + 1) (by omega) (by simp [sI, *])
  refine k_iconst E (v := 0) (by decide) dX1_ungraded_0 ?_
  refine k_istore_n (lv' := [(1, .int 0), (0, .ref h)]) E rfl (by decide) rfl dX1_ungraded_1 ?_
  refine k_iconst E (v := 0) (by decide) dX1_ungraded_2 ?_
  refine k_istore_n (lv' := [(2, .int 0), (1, .int 0), (0, .ref h)]) E rfl (by decide) rfl dX1_ungraded_3 ?_
  refine k_lv [2, 1, 0] rfl ?_
  exact L4 (n - 0) 0 0 (by omega) rfl
set_option maxRecDepth 100000 in
set_option maxHeartbeats 4000000 in
theorem m_X1_spoiltLitres (l : Launch) (D : va_G) (k : Nat → ClassId) (h : Nat) (a0 : Nat) (a1 : Nat) (a2 : Nat) (a3 : Nat) (a4 : Nat) (a5 : Nat) (a6 : Nat) (n : Nat) (farm : Nat → Int32) (amount : Nat → Int32) (mark : Nat → Int32) (place : Nat → Int32) (number : Nat → Int32) (paid : Nat → Int32) (blamed : Nat → Int32) (b : Int32) (hn : n ≤ 100) : mR l yX1_spoiltLitres cX1_spoiltLitres 4 (some .int) 2 45 D (kTy k) [.ref h, .int b] (wSA k h a0 a1 a2 a3 a4 a5 a6 (nI n) farm amount mark place number paid blamed) (some (.int (spl mark place number amount b n))) := by
  refine mR.of (lv' := [(0, .ref h), (1, .int b)]) (by decide) (Nat.le_of_ble_eq_true rfl) rfl ?_
  intro p e s m args below meth c E hr hlk
  have L4 : ∀ (dn4 : Nat) (i : Nat) (x : Int32), i + dn4 = n → (x = sI (cSp mark place number b) amount i) → kJ p l e (kRm 2 45) s m args below meth c (gR D s.heap) 4 0 0 (MQ below (kQr (some (.int (spl mark place number amount b n)))) args s 0 0 (fun _ => False)) (wSA k h a0 a1 a2 a3 a4 a5 a6 (nI n) farm amount mark place number paid blamed) 4 [(0, .ref h), (1, .int b), (2, .int x), (3, .int (nI i))] [] := by
    intro dn4
    induction dn4 with
    | zero =>
      intro i x hd4 hx
      refine k_iload_n E 3 rfl rfl dX1_spoiltLitres_4 ?_
      refine k_aload_n E 0 rfl rfl dX1_spoiltLitres_5 ?_
      refine k_get E inX1 0 rfl rfl 0 (by decide) q_59 rfl rfl dX1_spoiltLitres_6 ?_
      refine k_icmp_ge E (tgt := 36) (by decide) dX1_spoiltLitres_9 (fun c9 => ?_) (fun c9 => absurd ((not_congr (nI_leI (a := n) (b := i) (by omega) (by omega))).mp c9) (by omega))
      have c9 := (nI_leI (a := n) (b := i) (by omega) (by omega)).mp c9
      refine k_iload_n E 2 rfl rfl dX1_spoiltLitres_36 ?_
      exact kr_iret E hr hlk (by rw [hx, show i = n by omega]; rfl) dX1_spoiltLitres_37
    | succ dn4 ih4 =>
      intro i x hd4 hx
      refine k_iload_n E 3 rfl rfl dX1_spoiltLitres_4 ?_
      refine k_aload_n E 0 rfl rfl dX1_spoiltLitres_5 ?_
      refine k_get E inX1 0 rfl rfl 0 (by decide) q_59 rfl rfl dX1_spoiltLitres_6 ?_
      refine k_icmp_ge E (tgt := 36) (by decide) dX1_spoiltLitres_9 (fun c9 => absurd ((nI_leI (a := n) (b := i) (by omega) (by omega)).mp c9) (by omega)) (fun c9 => ?_)
      have c9 := (not_congr (nI_leI (a := n) (b := i) (by omega) (by omega))).mp c9
      refine k_aload_n E 0 rfl rfl dX1_spoiltLitres_12 ?_
      refine k_iload_n E 3 rfl rfl dX1_spoiltLitres_13 ?_
      refine k_iload_n E 1 rfl rfl dX1_spoiltLitres_14 ?_
      refine k_callRV [.int (nI i), .int b] E (m_X1_isSpoiltIn l D k h a0 a1 a2 a3 a4 a5 a6 n farm amount mark place number paid blamed i b (by first | assumption | omega)) cf_X1_isSpoiltIn q_474 [0, 1, 2, 3, 4, 5, 6, 7] rfl 0 rfl rfl rfl rfl ⟨by decide, by decide⟩ (Nat.le_of_ble_eq_true rfl) ⟨by decide, by decide⟩ dX1_spoiltLitres_15 ?_
      refine k_steq (st' := [.int (kB (cSp mark place number b i))]) rfl ?_
      refine k_if_eq E (tgt := 30) (by decide) dX1_spoiltLitres_18 (fun c18 => ?_) (fun c18 => ?_)
      · skip
        have c18 := kB_f c18
        refine k_iinc (q := 3) (v := nI (i + 1)) (lv' := [(3, .int (nI (i + 1))), (0, .ref h), (1, .int b), (2, .int x)]) E rfl (nI_inc _) (by decide) rfl dX1_spoiltLitres_30 ?_
        refine k_goto E (tgt := 4) (by decide) dX1_spoiltLitres_33 ?_
        refine k_lv [1, 2, 3, 0] rfl ?_
        exact ih4 (i + 1) x (by omega) (by simp [sI, *])
      · skip
        have c18 := kB_t c18
        refine k_iload_n E 2 rfl rfl dX1_spoiltLitres_21 ?_
        refine k_aload_n E 0 rfl rfl dX1_spoiltLitres_22 ?_
        refine k_get E inX1 0 rfl rfl 2 (by decide) q_63 rfl rfl dX1_spoiltLitres_23 ?_
        refine k_iload_n E 3 rfl rfl dX1_spoiltLitres_26 ?_
        refine k_iald E (j := i) 2 0 rfl rfl rfl (by omega) (by decide) dX1_spoiltLitres_27 ?_
        refine k_iadd E dX1_spoiltLitres_28 ?_
        refine k_istore_n (lv' := [(2, .int (x + (amount i))), (0, .ref h), (1, .int b), (3, .int (nI i))]) E rfl (by decide) rfl dX1_spoiltLitres_29 ?_
        refine k_iinc (q := 3) (v := nI (i + 1)) (lv' := [(3, .int (nI (i + 1))), (2, .int (x + (amount i))), (0, .ref h), (1, .int b)]) E rfl (nI_inc _) (by decide) rfl dX1_spoiltLitres_30 ?_
        refine k_goto E (tgt := 4) (by decide) dX1_spoiltLitres_33 ?_
        refine k_lv [2, 3, 1, 0] rfl ?_
        exact ih4 (i + 1) (x + (amount i)) (by omega) (by simp [sI, *])
  refine k_iconst E (v := 0) (by decide) dX1_spoiltLitres_0 ?_
  refine k_istore_n (lv' := [(2, .int 0), (0, .ref h), (1, .int b)]) E rfl (by decide) rfl dX1_spoiltLitres_1 ?_
  refine k_iconst E (v := 0) (by decide) dX1_spoiltLitres_2 ?_
  refine k_istore_n (lv' := [(3, .int 0), (2, .int 0), (0, .ref h), (1, .int b)]) E rfl (by decide) rfl dX1_spoiltLitres_3 ?_
  refine k_lv [2, 3, 1, 0] rfl ?_
  exact L4 (n - 0) 0 0 (by omega) rfl
set_option maxRecDepth 100000 in
set_option maxHeartbeats 4000000 in
theorem m_X1_isSpoilt (l : Launch) (D : va_G) (k : Nat → ClassId) (h : Nat) (a0 : Nat) (a1 : Nat) (a2 : Nat) (a3 : Nat) (a4 : Nat) (a5 : Nat) (a6 : Nat) (n : Nat) (farm : Nat → Int32) (amount : Nat → Int32) (mark : Nat → Int32) (place : Nat → Int32) (number : Nat → Int32) (paid : Nat → Int32) (blamed : Nat → Int32) (b : Int32) (hn : n ≤ 100) : mR l yX1_isSpoilt cX1_isSpoilt 2 (some .boolean) 3 68 D (kTy k) [.ref h, .int b] (wSA k h a0 a1 a2 a3 a4 a5 a6 (nI n) farm amount mark place number paid blamed) (some (.int (kB (decide (0 < spl mark place number amount b n))))) := by
  refine mR.of (lv' := [(0, .ref h), (1, .int b)]) (by decide) (Nat.le_of_ble_eq_true rfl) rfl ?_
  intro p e s m args below meth c E hr hlk
  refine k_aload_n E 0 rfl rfl dX1_isSpoilt_0 ?_
  refine k_iload_n E 1 rfl rfl dX1_isSpoilt_1 ?_
  refine k_callRV [.int b] E (m_X1_spoiltLitres l D k h a0 a1 a2 a3 a4 a5 a6 n farm amount mark place number paid blamed b (by first | assumption | omega)) cf_X1_spoiltLitres q_470 [0, 1, 2, 3, 4, 5, 6, 7] rfl 0 rfl rfl rfl rfl ⟨by decide, by decide⟩ (Nat.le_of_ble_eq_true rfl) ⟨by decide, by decide⟩ dX1_isSpoilt_2 ?_
  refine k_steq (st' := [.int (spl mark place number amount b n)]) rfl ?_
  refine k_if_le E (tgt := 12) (by decide) dX1_isSpoilt_5 (fun c5 => ?_) (fun c5 => ?_)
  · skip
    refine k_iconst E (v := 0) (by decide) dX1_isSpoilt_12 ?_
    exact kr_zret E hr hlk rfl (by simp [kB, *]) dX1_isSpoilt_13
  · skip
    refine k_iconst E (v := 1) (by decide) dX1_isSpoilt_8 ?_
    refine k_goto E (tgt := 13) (by decide) dX1_isSpoilt_9 ?_
    exact kr_zret E hr hlk rfl (by simp [kB, *]) dX1_isSpoilt_13
set_option maxRecDepth 100000 in
set_option maxHeartbeats 4000000 in
theorem m_X1_centsALitre (l : Launch) (D : va_G) (k : Nat → ClassId) (g : Int32)  : mR l yX1_centsALitre cX1_centsALitre 1 (some .int) 0 0 D (kTy k) [.int g] ([] : va_W) (some (.int (cents g))) := by
  refine mR.of (lv' := [(0, .int g)]) (by decide) (Nat.le_of_ble_eq_true rfl) rfl ?_
  intro p e s m args below meth c E hr hlk
  refine k_iload_n E 0 rfl rfl dX1_centsALitre_0 ?_
  refine k_bipush E (v := 97) (by decide) dX1_centsALitre_1 ?_
  refine k_icmp_ne E (tgt := 9) (by decide) dX1_centsALitre_3 (fun c3 => ?_) (fun c3 => ?_)
  · skip
    refine k_iload_n E 0 rfl rfl dX1_centsALitre_9 ?_
    refine k_bipush E (v := 98) (by decide) dX1_centsALitre_10 ?_
    refine k_icmp_ne E (tgt := 18) (by decide) dX1_centsALitre_12 (fun c12 => ?_) (fun c12 => ?_)
    · skip
      refine k_iload_n E 0 rfl rfl dX1_centsALitre_18 ?_
      refine k_bipush E (v := 99) (by decide) dX1_centsALitre_19 ?_
      refine k_icmp_ne E (tgt := 29) (by decide) dX1_centsALitre_21 (fun c21 => ?_) (fun c21 => ?_)
      · skip
        refine k_iconst E (v := 0) (by decide) dX1_centsALitre_29 ?_
        exact kr_iret E hr hlk (by simp [cents, *]) dX1_centsALitre_30
      · skip
        refine k_bipush E (v := 25) (by decide) dX1_centsALitre_24 ?_
        refine k_goto E (tgt := 30) (by decide) dX1_centsALitre_26 ?_
        exact kr_iret E hr hlk (by simp [cents, *]) dX1_centsALitre_30
    · skip
      refine k_bipush E (v := 34) (by decide) dX1_centsALitre_15 ?_
      exact kr_iret E hr hlk (by simp [cents, *]) dX1_centsALitre_17
  · skip
    refine k_bipush E (v := 40) (by decide) dX1_centsALitre_6 ?_
    exact kr_iret E hr hlk (by simp [cents, *]) dX1_centsALitre_8
set_option maxRecDepth 100000 in
set_option maxHeartbeats 4000000 in
theorem m_X1_valueOfSample (l : Launch) (D : va_G) (k : Nat → ClassId) (h : Nat) (a0 : Nat) (a1 : Nat) (a2 : Nat) (a3 : Nat) (a4 : Nat) (a5 : Nat) (a6 : Nat) (n : Nat) (farm : Nat → Int32) (amount : Nat → Int32) (mark : Nat → Int32) (place : Nat → Int32) (number : Nat → Int32) (paid : Nat → Int32) (blamed : Nat → Int32) (j : Nat) (hj : j < 100) : mR l yX1_valueOfSample cX1_valueOfSample 2 (some .int) 1 20 D (kTy k) [.ref h, .int (nI j)] (wSA k h a0 a1 a2 a3 a4 a5 a6 (nI n) farm amount mark place number paid blamed) (some (.int (amount j * cents (mark j)))) := by
  refine mR.of (lv' := [(0, .ref h), (1, .int (nI j))]) (by decide) (Nat.le_of_ble_eq_true rfl) rfl ?_
  intro p e s m args below meth c E hr hlk
  refine k_aload_n E 0 rfl rfl dX1_valueOfSample_0 ?_
  refine k_get E inX1 0 rfl rfl 2 (by decide) q_63 rfl rfl dX1_valueOfSample_1 ?_
  refine k_iload_n E 1 rfl rfl dX1_valueOfSample_4 ?_
  refine k_iald E (j := j) 2 0 rfl rfl rfl (by omega) (by decide) dX1_valueOfSample_5 ?_
  refine k_aload_n E 0 rfl rfl dX1_valueOfSample_6 ?_
  refine k_get E inX1 0 rfl rfl 3 (by decide) q_65 rfl rfl dX1_valueOfSample_7 ?_
  refine k_iload_n E 1 rfl rfl dX1_valueOfSample_10 ?_
  refine k_cald E (j := j) 3 1 rfl rfl rfl (by omega) (by decide) dX1_valueOfSample_11 ?_
  refine k_callRS [.int (mark j)] E (m_X1_centsALitre l D k (mark j)) cf_X1_centsALitre q_490 [] rfl rfl rfl ⟨by decide, by decide⟩ (Nat.le_of_ble_eq_true rfl) ⟨by decide, by decide⟩ dX1_valueOfSample_12 ?_
  refine k_steq (st' := [.int (cents (mark j)), .int (amount j)]) rfl ?_
  refine k_imul E dX1_valueOfSample_15 ?_
  exact kr_iret E hr hlk rfl dX1_valueOfSample_16
set_option maxRecDepth 100000 in
set_option maxHeartbeats 4000000 in
theorem m_X1_valueOf (l : Launch) (D : va_G) (k : Nat → ClassId) (h : Nat) (a0 : Nat) (a1 : Nat) (a2 : Nat) (a3 : Nat) (a4 : Nat) (a5 : Nat) (a6 : Nat) (n : Nat) (farm : Nat → Int32) (amount : Nat → Int32) (mark : Nat → Int32) (place : Nat → Int32) (number : Nat → Int32) (paid : Nat → Int32) (blamed : Nat → Int32) (b : Int32) (hn : n ≤ 100) : mR l yX1_valueOf cX1_valueOf 4 (some .int) 2 41 D (kTy k) [.ref h, .int b] (wSA k h a0 a1 a2 a3 a4 a5 a6 (nI n) farm amount mark place number paid blamed) (some (.int (valB mark place number amount b n))) := by
  refine mR.of (lv' := [(0, .ref h), (1, .int b)]) (by decide) (Nat.le_of_ble_eq_true rfl) rfl ?_
  intro p e s m args below meth c E hr hlk
  have L4 : ∀ (dn4 : Nat) (i : Nat) (x : Int32), i + dn4 = n → (x = sI (cIn place number 98 b) (fun zi => amount zi * cents (mark zi)) i) → kJ p l e (kRm 2 41) s m args below meth c (gR D s.heap) 4 0 0 (MQ below (kQr (some (.int (valB mark place number amount b n)))) args s 0 0 (fun _ => False)) (wSA k h a0 a1 a2 a3 a4 a5 a6 (nI n) farm amount mark place number paid blamed) 4 [(0, .ref h), (1, .int b), (2, .int x), (3, .int (nI i))] [] := by
    intro dn4
    induction dn4 with
    | zero =>
      intro i x hd4 hx
      refine k_iload_n E 3 rfl rfl dX1_valueOf_4 ?_
      refine k_aload_n E 0 rfl rfl dX1_valueOf_5 ?_
      refine k_get E inX1 0 rfl rfl 0 (by decide) q_59 rfl rfl dX1_valueOf_6 ?_
      refine k_icmp_ge E (tgt := 37) (by decide) dX1_valueOf_9 (fun c9 => ?_) (fun c9 => absurd ((not_congr (nI_leI (a := n) (b := i) (by omega) (by omega))).mp c9) (by omega))
      have c9 := (nI_leI (a := n) (b := i) (by omega) (by omega)).mp c9
      refine k_iload_n E 2 rfl rfl dX1_valueOf_37 ?_
      exact kr_iret E hr hlk (by rw [hx, show i = n by omega]; rfl) dX1_valueOf_38
    | succ dn4 ih4 =>
      intro i x hd4 hx
      refine k_iload_n E 3 rfl rfl dX1_valueOf_4 ?_
      refine k_aload_n E 0 rfl rfl dX1_valueOf_5 ?_
      refine k_get E inX1 0 rfl rfl 0 (by decide) q_59 rfl rfl dX1_valueOf_6 ?_
      refine k_icmp_ge E (tgt := 37) (by decide) dX1_valueOf_9 (fun c9 => absurd ((nI_leI (a := n) (b := i) (by omega) (by omega)).mp c9) (by omega)) (fun c9 => ?_)
      have c9 := (not_congr (nI_leI (a := n) (b := i) (by omega) (by omega))).mp c9
      refine k_aload_n E 0 rfl rfl dX1_valueOf_12 ?_
      refine k_iload_n E 3 rfl rfl dX1_valueOf_13 ?_
      refine k_bipush E (v := 98) (by decide) dX1_valueOf_14 ?_
      refine k_iload_n E 1 rfl rfl dX1_valueOf_16 ?_
      refine k_callRV [.int (nI i), .int 98, .int b] E (m_X1_isIn l D k h a0 a1 a2 a3 a4 a5 a6 n farm amount mark place number paid blamed i 98 b (by first | assumption | omega)) cf_X1_isIn q_132 [0, 1, 2, 3, 4, 5, 6, 7] rfl 0 rfl rfl rfl rfl ⟨by decide, by decide⟩ (Nat.le_of_ble_eq_true rfl) ⟨by decide, by decide⟩ dX1_valueOf_17 ?_
      refine k_steq (st' := [.int (kB (cIn place number 98 b i))]) rfl ?_
      refine k_if_eq E (tgt := 31) (by decide) dX1_valueOf_20 (fun c20 => ?_) (fun c20 => ?_)
      · skip
        have c20 := kB_f c20
        refine k_iinc (q := 3) (v := nI (i + 1)) (lv' := [(3, .int (nI (i + 1))), (0, .ref h), (1, .int b), (2, .int x)]) E rfl (nI_inc _) (by decide) rfl dX1_valueOf_31 ?_
        refine k_goto E (tgt := 4) (by decide) dX1_valueOf_34 ?_
        refine k_lv [1, 2, 3, 0] rfl ?_
        exact ih4 (i + 1) x (by omega) (by simp [sI, *])
      · skip
        have c20 := kB_t c20
        refine k_iload_n E 2 rfl rfl dX1_valueOf_23 ?_
        refine k_aload_n E 0 rfl rfl dX1_valueOf_24 ?_
        refine k_iload_n E 3 rfl rfl dX1_valueOf_25 ?_
        refine k_callRV [.int (nI i)] E (m_X1_valueOfSample l D k h a0 a1 a2 a3 a4 a5 a6 n farm amount mark place number paid blamed i (by first | assumption | omega)) cf_X1_valueOfSample q_486 [0, 1, 2, 3, 4, 5, 6, 7] rfl 0 rfl rfl rfl rfl ⟨by decide, by decide⟩ (Nat.le_of_ble_eq_true rfl) ⟨by decide, by decide⟩ dX1_valueOf_26 ?_
        refine k_steq (st' := [.int (amount i * cents (mark i)), .int x]) rfl ?_
        refine k_iadd E dX1_valueOf_29 ?_
        refine k_istore_n (lv' := [(2, .int (x + (amount i * cents (mark i)))), (0, .ref h), (1, .int b), (3, .int (nI i))]) E rfl (by decide) rfl dX1_valueOf_30 ?_
        refine k_iinc (q := 3) (v := nI (i + 1)) (lv' := [(3, .int (nI (i + 1))), (2, .int (x + (amount i * cents (mark i)))), (0, .ref h), (1, .int b)]) E rfl (nI_inc _) (by decide) rfl dX1_valueOf_31 ?_
        refine k_goto E (tgt := 4) (by decide) dX1_valueOf_34 ?_
        refine k_lv [2, 3, 1, 0] rfl ?_
        exact ih4 (i + 1) (x + (amount i * cents (mark i))) (by omega) (by simp [sI, *])
  refine k_iconst E (v := 0) (by decide) dX1_valueOf_0 ?_
  refine k_istore_n (lv' := [(2, .int 0), (0, .ref h), (1, .int b)]) E rfl (by decide) rfl dX1_valueOf_1 ?_
  refine k_iconst E (v := 0) (by decide) dX1_valueOf_2 ?_
  refine k_istore_n (lv' := [(3, .int 0), (2, .int 0), (0, .ref h), (1, .int b)]) E rfl (by decide) rfl dX1_valueOf_3 ?_
  refine k_lv [2, 3, 1, 0] rfl ?_
  exact L4 (n - 0) 0 0 (by omega) rfl
set_option maxRecDepth 100000 in
set_option maxHeartbeats 4000000 in
theorem m_X1_payOfAll (l : Launch) (D : va_G) (k : Nat → ClassId) (h : Nat) (a0 : Nat) (a1 : Nat) (a2 : Nat) (a3 : Nat) (a4 : Nat) (a5 : Nat) (a6 : Nat) (n : Nat) (farm : Nat → Int32) (amount : Nat → Int32) (mark : Nat → Int32) (place : Nat → Int32) (number : Nat → Int32) (paid : Nat → Int32) (blamed : Nat → Int32) (b : Int32) (hn : n ≤ 100) : mR l yX1_payOfAll cX1_payOfAll 2 (some .int) 4 89 D (kTy k) [.ref h, .int b] (wSA k h a0 a1 a2 a3 a4 a5 a6 (nI n) farm amount mark place number paid blamed) (some (.int (payB mark place number amount b n))) := by
  refine mR.of (lv' := [(0, .ref h), (1, .int b)]) (by decide) (Nat.le_of_ble_eq_true rfl) rfl ?_
  intro p e s m args below meth c E hr hlk
  refine k_aload_n E 0 rfl rfl dX1_payOfAll_0 ?_
  refine k_iload_n E 1 rfl rfl dX1_payOfAll_1 ?_
  refine k_callRV [.int b] E (m_X1_isSpoilt l D k h a0 a1 a2 a3 a4 a5 a6 n farm amount mark place number paid blamed b (by first | assumption | omega)) cf_X1_isSpoilt q_581 [0, 1, 2, 3, 4, 5, 6, 7] rfl 0 rfl rfl rfl rfl ⟨by decide, by decide⟩ (Nat.le_of_ble_eq_true rfl) ⟨by decide, by decide⟩ dX1_payOfAll_2 ?_
  refine k_steq (st' := [.int (kB (decide (0 < spl mark place number amount b n)))]) rfl ?_
  refine k_if_eq E (tgt := 12) (by decide) dX1_payOfAll_5 (fun c5 => ?_) (fun c5 => ?_)
  · skip
    have c5 := of_decide_eq_false (kB_f c5)
    refine k_aload_n E 0 rfl rfl dX1_payOfAll_12 ?_
    refine k_iload_n E 1 rfl rfl dX1_payOfAll_13 ?_
    refine k_callRV [.int b] E (m_X1_valueOf l D k h a0 a1 a2 a3 a4 a5 a6 n farm amount mark place number paid blamed b (by first | assumption | omega)) cf_X1_valueOf q_482 [0, 1, 2, 3, 4, 5, 6, 7] rfl 0 rfl rfl rfl rfl ⟨by decide, by decide⟩ (Nat.le_of_ble_eq_true rfl) ⟨by decide, by decide⟩ dX1_payOfAll_14 ?_
    refine k_steq (st' := [.int (valB mark place number amount b n)]) rfl ?_
    exact kr_iret E hr hlk (by simp [payB, *]) dX1_payOfAll_17
  · skip
    have c5 := of_decide_eq_true (kB_t c5)
    refine k_iconst E (v := 0) (by decide) dX1_payOfAll_8 ?_
    refine k_goto E (tgt := 17) (by decide) dX1_payOfAll_9 ?_
    exact kr_iret E hr hlk (by simp [payB, *]) dX1_payOfAll_17
set_option maxRecDepth 100000 in
set_option maxHeartbeats 4000000 in
theorem m_X1_lossOf (l : Launch) (D : va_G) (k : Nat → ClassId) (h : Nat) (a0 : Nat) (a1 : Nat) (a2 : Nat) (a3 : Nat) (a4 : Nat) (a5 : Nat) (a6 : Nat) (n : Nat) (farm : Nat → Int32) (amount : Nat → Int32) (mark : Nat → Int32) (place : Nat → Int32) (number : Nat → Int32) (paid : Nat → Int32) (blamed : Nat → Int32) (b : Int32) (hn : n ≤ 100) : mR l yX1_lossOf cX1_lossOf 2 (some .int) 4 89 D (kTy k) [.ref h, .int b] (wSA k h a0 a1 a2 a3 a4 a5 a6 (nI n) farm amount mark place number paid blamed) (some (.int (lossB mark place number amount b n))) := by
  refine mR.of (lv' := [(0, .ref h), (1, .int b)]) (by decide) (Nat.le_of_ble_eq_true rfl) rfl ?_
  intro p e s m args below meth c E hr hlk
  refine k_aload_n E 0 rfl rfl dX1_lossOf_0 ?_
  refine k_iload_n E 1 rfl rfl dX1_lossOf_1 ?_
  refine k_callRV [.int b] E (m_X1_isSpoilt l D k h a0 a1 a2 a3 a4 a5 a6 n farm amount mark place number paid blamed b (by first | assumption | omega)) cf_X1_isSpoilt q_581 [0, 1, 2, 3, 4, 5, 6, 7] rfl 0 rfl rfl rfl rfl ⟨by decide, by decide⟩ (Nat.le_of_ble_eq_true rfl) ⟨by decide, by decide⟩ dX1_lossOf_2 ?_
  refine k_steq (st' := [.int (kB (decide (0 < spl mark place number amount b n)))]) rfl ?_
  refine k_if_eq E (tgt := 16) (by decide) dX1_lossOf_5 (fun c5 => ?_) (fun c5 => ?_)
  · skip
    have c5 := of_decide_eq_false (kB_f c5)
    refine k_iconst E (v := 0) (by decide) dX1_lossOf_16 ?_
    exact kr_iret E hr hlk (by simp [lossB, *]) dX1_lossOf_17
  · skip
    have c5 := of_decide_eq_true (kB_t c5)
    refine k_aload_n E 0 rfl rfl dX1_lossOf_8 ?_
    refine k_iload_n E 1 rfl rfl dX1_lossOf_9 ?_
    refine k_callRV [.int b] E (m_X1_valueOf l D k h a0 a1 a2 a3 a4 a5 a6 n farm amount mark place number paid blamed b (by first | assumption | omega)) cf_X1_valueOf q_482 [0, 1, 2, 3, 4, 5, 6, 7] rfl 0 rfl rfl rfl rfl ⟨by decide, by decide⟩ (Nat.le_of_ble_eq_true rfl) ⟨by decide, by decide⟩ dX1_lossOf_10 ?_
    refine k_steq (st' := [.int (valB mark place number amount b n)]) rfl ?_
    refine k_goto E (tgt := 17) (by decide) dX1_lossOf_13 ?_
    exact kr_iret E hr hlk (by simp [lossB, *]) dX1_lossOf_17
set_option maxRecDepth 100000 in
set_option maxHeartbeats 4000000 in
theorem m_X1_isGraded (l : Launch) (D : va_G) (k : Nat → ClassId) (h : Nat) (a0 : Nat) (a1 : Nat) (a2 : Nat) (a3 : Nat) (a4 : Nat) (a5 : Nat) (a6 : Nat) (n : Nat) (farm : Nat → Int32) (amount : Nat → Int32) (mark : Nat → Int32) (place : Nat → Int32) (number : Nat → Int32) (paid : Nat → Int32) (blamed : Nat → Int32) (b : Int32) (hn : n ≤ 100) : mR l yX1_isGraded cX1_isGraded 3 (some .boolean) 1 23 D (kTy k) [.ref h, .int b] (wSA k h a0 a1 a2 a3 a4 a5 a6 (nI n) farm amount mark place number paid blamed) (some (.int (kB (grB mark place number b n)))) := by
  refine mR.of (lv' := [(0, .ref h), (1, .int b)]) (by decide) (Nat.le_of_ble_eq_true rfl) rfl ?_
  intro p e s m args below meth c E hr hlk
  have L2 : ∀ (dn2 : Nat) (i : Nat), i + dn2 = n → (aB (cUn mark place number b) i = true) → kJ p l e (kRm 1 23) s m args below meth c (gR D s.heap) 3 0 0 (MQ below (kQr (some (.int (kB (grB mark place number b n))))) args s 0 0 (fun _ => False)) (wSA k h a0 a1 a2 a3 a4 a5 a6 (nI n) farm amount mark place number paid blamed) 2 [(0, .ref h), (1, .int b), (2, .int (nI i))] [] := by
    intro dn2
    induction dn2 with
    | zero =>
      intro i hd2 hx
      refine k_iload_n E 2 rfl rfl dX1_isGraded_2 ?_
      refine k_aload_n E 0 rfl rfl dX1_isGraded_3 ?_
      refine k_get E inX1 0 rfl rfl 0 (by decide) q_59 rfl rfl dX1_isGraded_4 ?_
      refine k_icmp_ge E (tgt := 40) (by decide) dX1_isGraded_7 (fun c7 => ?_) (fun c7 => absurd ((not_congr (nI_leI (a := n) (b := i) (by omega) (by omega))).mp c7) (by omega))
      have c7 := (nI_leI (a := n) (b := i) (by omega) (by omega)).mp c7
      refine k_iconst E (v := 1) (by decide) dX1_isGraded_40 ?_
      exact kr_zret E hr hlk rfl (by rw [show grB mark place number b n = true from by rw [← hx, show i = n by omega]; rfl]; rfl) dX1_isGraded_41
    | succ dn2 ih2 =>
      intro i hd2 hx
      refine k_iload_n E 2 rfl rfl dX1_isGraded_2 ?_
      refine k_aload_n E 0 rfl rfl dX1_isGraded_3 ?_
      refine k_get E inX1 0 rfl rfl 0 (by decide) q_59 rfl rfl dX1_isGraded_4 ?_
      refine k_icmp_ge E (tgt := 40) (by decide) dX1_isGraded_7 (fun c7 => absurd ((nI_leI (a := n) (b := i) (by omega) (by omega)).mp c7) (by omega)) (fun c7 => ?_)
      have c7 := (not_congr (nI_leI (a := n) (b := i) (by omega) (by omega))).mp c7
      refine k_aload_n E 0 rfl rfl dX1_isGraded_10 ?_
      refine k_get E inX1 0 rfl rfl 3 (by decide) q_65 rfl rfl dX1_isGraded_11 ?_
      refine k_iload_n E 2 rfl rfl dX1_isGraded_14 ?_
      refine k_cald E (j := i) 3 1 rfl rfl rfl (by omega) (by decide) dX1_isGraded_15 ?_
      refine k_bipush E (v := 45) (by decide) dX1_isGraded_16 ?_
      refine k_icmp_ne E (tgt := 34) (by decide) dX1_isGraded_18 (fun c18 => ?_) (fun c18 => ?_)
      · skip
        refine k_iinc (q := 2) (v := nI (i + 1)) (lv' := [(2, .int (nI (i + 1))), (0, .ref h), (1, .int b)]) E rfl (nI_inc _) (by decide) rfl dX1_isGraded_34 ?_
        refine k_goto E (tgt := 2) (by decide) dX1_isGraded_37 ?_
        refine k_lv [1, 2, 0] rfl ?_
        exact ih2 (i + 1) (by omega) (by refine aB_t hx ?_; simp [cUn, *])
      · skip
        refine k_aload_n E 0 rfl rfl dX1_isGraded_21 ?_
        refine k_iload_n E 2 rfl rfl dX1_isGraded_22 ?_
        refine k_bipush E (v := 98) (by decide) dX1_isGraded_23 ?_
        refine k_iload_n E 1 rfl rfl dX1_isGraded_25 ?_
        refine k_callRV [.int (nI i), .int 98, .int b] E (m_X1_isIn l D k h a0 a1 a2 a3 a4 a5 a6 n farm amount mark place number paid blamed i 98 b (by first | assumption | omega)) cf_X1_isIn q_132 [0, 1, 2, 3, 4, 5, 6, 7] rfl 0 rfl rfl rfl rfl ⟨by decide, by decide⟩ (Nat.le_of_ble_eq_true rfl) ⟨by decide, by decide⟩ dX1_isGraded_26 ?_
        refine k_steq (st' := [.int (kB (cIn place number 98 b i))]) rfl ?_
        refine k_if_eq E (tgt := 34) (by decide) dX1_isGraded_29 (fun c29 => ?_) (fun c29 => ?_)
        · skip
          have c29 := kB_f c29
          refine k_iinc (q := 2) (v := nI (i + 1)) (lv' := [(2, .int (nI (i + 1))), (0, .ref h), (1, .int b)]) E rfl (nI_inc _) (by decide) rfl dX1_isGraded_34 ?_
          refine k_goto E (tgt := 2) (by decide) dX1_isGraded_37 ?_
          refine k_lv [1, 2, 0] rfl ?_
          exact ih2 (i + 1) (by omega) (by refine aB_t hx ?_; simp [cUn, *])
        · skip
          have c29 := kB_t c29
          refine k_iconst E (v := 0) (by decide) dX1_isGraded_32 ?_
          exact kr_zret E hr hlk rfl (by rw [show grB mark place number b n = false from aB_f (i := i) (by simp [cUn, *]) (by omega)]; rfl) dX1_isGraded_33
  refine k_iconst E (v := 0) (by decide) dX1_isGraded_0 ?_
  refine k_istore_n (lv' := [(2, .int 0), (0, .ref h), (1, .int b)]) E rfl (by decide) rfl dX1_isGraded_1 ?_
  refine k_lv [1, 2, 0] rfl ?_
  exact L2 (n - 0) 0 (by omega) rfl
set_option maxRecDepth 100000 in
set_option maxHeartbeats 4000000 in
theorem m_X1_shareAt (l : Launch) (D : va_G) (k : Nat → ClassId) (h : Nat) (a0 : Nat) (a1 : Nat) (a2 : Nat) (a3 : Nat) (a4 : Nat) (a5 : Nat) (a6 : Nat) (n : Nat) (farm : Nat → Int32) (amount : Nat → Int32) (mark : Nat → Int32) (place : Nat → Int32) (number : Nat → Int32) (paid : Nat → Int32) (blamed : Nat → Int32) (b : Int32) (ix : Int32) (hn : n ≤ 100) : mR l yX1_shareAt cX1_shareAt 5 (some .int) 1 23 D (kTy k) [.ref h, .int b, .int ix] (wSA k h a0 a1 a2 a3 a4 a5 a6 (nI n) farm amount mark place number paid blamed) (some (.int (sh (cIn place number 98 b) ix n))) := by
  refine mR.of (lv' := [(0, .ref h), (1, .int b), (2, .int ix)]) (by decide) (Nat.le_of_ble_eq_true rfl) rfl ?_
  intro p e s m args below meth c E hr hlk
  have L5 : ∀ (dn5 : Nat) (i : Nat) (x : Int32), i + dn5 = n → (x = sI (cIn place number 98 b) (fun _ => 1) i) → (sh (cIn place number 98 b) ix i = -1) → kJ p l e (kRm 1 23) s m args below meth c (gR D s.heap) 5 0 0 (MQ below (kQr (some (.int (sh (cIn place number 98 b) ix n)))) args s 0 0 (fun _ => False)) (wSA k h a0 a1 a2 a3 a4 a5 a6 (nI n) farm amount mark place number paid blamed) 5 [(0, .ref h), (1, .int b), (2, .int ix), (3, .int x), (4, .int (nI i))] [] := by
    intro dn5
    induction dn5 with
    | zero =>
      intro i x hd5 hx hs
      refine k_iload E 4 rfl dX1_shareAt_5 ?_
      refine k_aload_n E 0 rfl rfl dX1_shareAt_7 ?_
      refine k_get E inX1 0 rfl rfl 0 (by decide) q_59 rfl rfl dX1_shareAt_8 ?_
      refine k_icmp_ge E (tgt := 43) (by decide) dX1_shareAt_11 (fun c11 => ?_) (fun c11 => absurd ((not_congr (nI_leI (a := n) (b := i) (by omega) (by omega))).mp c11) (by omega))
      have c11 := (nI_leI (a := n) (b := i) (by omega) (by omega)).mp c11
      refine k_iconst E (v := (-1)) (by decide) dX1_shareAt_43 ?_
      exact kr_iret E hr hlk (by rw [show n = i by omega, hs]) dX1_shareAt_44
    | succ dn5 ih5 =>
      intro i x hd5 hx hs
      refine k_iload E 4 rfl dX1_shareAt_5 ?_
      refine k_aload_n E 0 rfl rfl dX1_shareAt_7 ?_
      refine k_get E inX1 0 rfl rfl 0 (by decide) q_59 rfl rfl dX1_shareAt_8 ?_
      refine k_icmp_ge E (tgt := 43) (by decide) dX1_shareAt_11 (fun c11 => absurd ((nI_leI (a := n) (b := i) (by omega) (by omega)).mp c11) (by omega)) (fun c11 => ?_)
      have c11 := (not_congr (nI_leI (a := n) (b := i) (by omega) (by omega))).mp c11
      refine k_aload_n E 0 rfl rfl dX1_shareAt_14 ?_
      refine k_iload E 4 rfl dX1_shareAt_15 ?_
      refine k_bipush E (v := 98) (by decide) dX1_shareAt_17 ?_
      refine k_iload_n E 1 rfl rfl dX1_shareAt_19 ?_
      refine k_callRV [.int (nI i), .int 98, .int b] E (m_X1_isIn l D k h a0 a1 a2 a3 a4 a5 a6 n farm amount mark place number paid blamed i 98 b (by first | assumption | omega)) cf_X1_isIn q_132 [0, 1, 2, 3, 4, 5, 6, 7] rfl 0 rfl rfl rfl rfl ⟨by decide, by decide⟩ (Nat.le_of_ble_eq_true rfl) ⟨by decide, by decide⟩ dX1_shareAt_20 ?_
      refine k_steq (st' := [.int (kB (cIn place number 98 b i))]) rfl ?_
      refine k_if_eq E (tgt := 37) (by decide) dX1_shareAt_23 (fun c23 => ?_) (fun c23 => ?_)
      · skip
        have c23 := kB_f c23
        refine k_iinc (q := 4) (v := nI (i + 1)) (lv' := [(4, .int (nI (i + 1))), (0, .ref h), (1, .int b), (2, .int ix), (3, .int x)]) E rfl (nI_inc _) (by decide) rfl dX1_shareAt_37 ?_
        refine k_goto E (tgt := 5) (by decide) dX1_shareAt_40 ?_
        refine k_lv [1, 2, 3, 4, 0] rfl ?_
        exact ih5 (i + 1) x (by omega) (by simp [sI, *]) (by refine sh_n hs (fun q => ?_); first | (exact c28 (by rw [hx]; exact q.2)) | (rw [q.1] at c23; cases c23))
      · skip
        have c23 := kB_t c23
        refine k_iload_n E 3 rfl rfl dX1_shareAt_26 ?_
        refine k_iload_n E 2 rfl rfl dX1_shareAt_27 ?_
        refine k_icmp_ne E (tgt := 34) (by decide) dX1_shareAt_28 (fun c28 => ?_) (fun c28 => ?_)
        · skip
          refine k_iinc (q := 3) (v := x + 1) (lv' := [(3, .int (x + 1)), (0, .ref h), (1, .int b), (2, .int ix), (4, .int (nI i))]) E rfl rfl (by decide) rfl dX1_shareAt_34 ?_
          refine k_iinc (q := 4) (v := nI (i + 1)) (lv' := [(4, .int (nI (i + 1))), (3, .int (x + 1)), (0, .ref h), (1, .int b), (2, .int ix)]) E rfl (nI_inc _) (by decide) rfl dX1_shareAt_37 ?_
          refine k_goto E (tgt := 5) (by decide) dX1_shareAt_40 ?_
          refine k_lv [2, 3, 4, 1, 0] rfl ?_
          exact ih5 (i + 1) (x + 1) (by omega) (by simp [sI, *]) (by refine sh_n hs (fun q => ?_); first | (exact c28 (by rw [hx]; exact q.2)) | (rw [q.1] at c23; cases c23))
        · skip
          refine k_iload E 4 rfl dX1_shareAt_31 ?_
          exact kr_iret E hr hlk (by rw [sh_lt (i := i) (by omega) hs c23 (by rw [← hx]; exact c28) (by omega)]) dX1_shareAt_33
  refine k_iconst E (v := 0) (by decide) dX1_shareAt_0 ?_
  refine k_istore_n (lv' := [(3, .int 0), (0, .ref h), (1, .int b), (2, .int ix)]) E rfl (by decide) rfl dX1_shareAt_1 ?_
  refine k_iconst E (v := 0) (by decide) dX1_shareAt_2 ?_
  refine k_istore (lv' := [(4, .int 0), (3, .int 0), (0, .ref h), (1, .int b), (2, .int ix)]) E (by decide) rfl dX1_shareAt_3 ?_
  refine k_lv [2, 3, 4, 1, 0] rfl ?_
  exact L5 (n - 0) 0 0 (by omega) rfl rfl
set_option maxRecDepth 100000 in
set_option maxHeartbeats 4000000 in
theorem m_X1_paidTo (l : Launch) (D : va_G) (k : Nat → ClassId) (h : Nat) (a0 : Nat) (a1 : Nat) (a2 : Nat) (a3 : Nat) (a4 : Nat) (a5 : Nat) (a6 : Nat) (n : Nat) (farm : Nat → Int32) (amount : Nat → Int32) (mark : Nat → Int32) (place : Nat → Int32) (number : Nat → Int32) (paid : Nat → Int32) (blamed : Nat → Int32) (fa : Int32) (b : Int32) (hn : n ≤ 100) : mR l yX1_paidTo cX1_paidTo 5 (some .int) 1 23 D (kTy k) [.ref h, .int fa, .int b] (wSA k h a0 a1 a2 a3 a4 a5 a6 (nI n) farm amount mark place number paid blamed) (some (.int (sI (fun zi => decide (farm zi = fa) && cIn place number 98 b zi) paid n))) := by
  refine mR.of (lv' := [(0, .ref h), (1, .int fa), (2, .int b)]) (by decide) (Nat.le_of_ble_eq_true rfl) rfl ?_
  intro p e s m args below meth c E hr hlk
  have L5 : ∀ (dn5 : Nat) (i : Nat) (x : Int32), i + dn5 = n → (x = sI (fun zi => decide (farm zi = fa) && cIn place number 98 b zi) paid i) → kJ p l e (kRm 1 23) s m args below meth c (gR D s.heap) 5 0 0 (MQ below (kQr (some (.int (sI (fun zi => decide (farm zi = fa) && cIn place number 98 b zi) paid n)))) args s 0 0 (fun _ => False)) (wSA k h a0 a1 a2 a3 a4 a5 a6 (nI n) farm amount mark place number paid blamed) 5 [(0, .ref h), (1, .int fa), (2, .int b), (3, .int x), (4, .int (nI i))] [] := by
    intro dn5
    induction dn5 with
    | zero =>
      intro i x hd5 hx
      refine k_iload E 4 rfl dX1_paidTo_5 ?_
      refine k_aload_n E 0 rfl rfl dX1_paidTo_7 ?_
      refine k_get E inX1 0 rfl rfl 0 (by decide) q_59 rfl rfl dX1_paidTo_8 ?_
      refine k_icmp_ge E (tgt := 53) (by decide) dX1_paidTo_11 (fun c11 => ?_) (fun c11 => absurd ((not_congr (nI_leI (a := n) (b := i) (by omega) (by omega))).mp c11) (by omega))
      have c11 := (nI_leI (a := n) (b := i) (by omega) (by omega)).mp c11
      refine k_iload_n E 3 rfl rfl dX1_paidTo_53 ?_
      exact kr_iret E hr hlk (by rw [hx, show i = n by omega]) dX1_paidTo_54
    | succ dn5 ih5 =>
      intro i x hd5 hx
      refine k_iload E 4 rfl dX1_paidTo_5 ?_
      refine k_aload_n E 0 rfl rfl dX1_paidTo_7 ?_
      refine k_get E inX1 0 rfl rfl 0 (by decide) q_59 rfl rfl dX1_paidTo_8 ?_
      refine k_icmp_ge E (tgt := 53) (by decide) dX1_paidTo_11 (fun c11 => absurd ((nI_leI (a := n) (b := i) (by omega) (by omega)).mp c11) (by omega)) (fun c11 => ?_)
      have c11 := (not_congr (nI_leI (a := n) (b := i) (by omega) (by omega))).mp c11
      refine k_aload_n E 0 rfl rfl dX1_paidTo_14 ?_
      refine k_get E inX1 0 rfl rfl 1 (by decide) q_61 rfl rfl dX1_paidTo_15 ?_
      refine k_iload E 4 rfl dX1_paidTo_18 ?_
      refine k_iald E (j := i) 1 0 rfl rfl rfl (by omega) (by decide) dX1_paidTo_20 ?_
      refine k_iload_n E 1 rfl rfl dX1_paidTo_21 ?_
      refine k_icmp_ne E (tgt := 47) (by decide) dX1_paidTo_22 (fun c22 => ?_) (fun c22 => ?_)
      · skip
        refine k_iinc (q := 4) (v := nI (i + 1)) (lv' := [(4, .int (nI (i + 1))), (0, .ref h), (1, .int fa), (2, .int b), (3, .int x)]) E rfl (nI_inc _) (by decide) rfl dX1_paidTo_47 ?_
        refine k_goto E (tgt := 5) (by decide) dX1_paidTo_50 ?_
        refine k_lv [1, 2, 3, 4, 0] rfl ?_
        exact ih5 (i + 1) x (by omega) (by simp [sI, *])
      · skip
        refine k_aload_n E 0 rfl rfl dX1_paidTo_25 ?_
        refine k_iload E 4 rfl dX1_paidTo_26 ?_
        refine k_bipush E (v := 98) (by decide) dX1_paidTo_28 ?_
        refine k_iload_n E 2 rfl rfl dX1_paidTo_30 ?_
        refine k_callRV [.int (nI i), .int 98, .int b] E (m_X1_isIn l D k h a0 a1 a2 a3 a4 a5 a6 n farm amount mark place number paid blamed i 98 b (by first | assumption | omega)) cf_X1_isIn q_132 [0, 1, 2, 3, 4, 5, 6, 7] rfl 0 rfl rfl rfl rfl ⟨by decide, by decide⟩ (Nat.le_of_ble_eq_true rfl) ⟨by decide, by decide⟩ dX1_paidTo_31 ?_
        refine k_steq (st' := [.int (kB (cIn place number 98 b i))]) rfl ?_
        refine k_if_eq E (tgt := 47) (by decide) dX1_paidTo_34 (fun c34 => ?_) (fun c34 => ?_)
        · skip
          have c34 := kB_f c34
          refine k_iinc (q := 4) (v := nI (i + 1)) (lv' := [(4, .int (nI (i + 1))), (0, .ref h), (1, .int fa), (2, .int b), (3, .int x)]) E rfl (nI_inc _) (by decide) rfl dX1_paidTo_47 ?_
          refine k_goto E (tgt := 5) (by decide) dX1_paidTo_50 ?_
          refine k_lv [1, 2, 3, 4, 0] rfl ?_
          exact ih5 (i + 1) x (by omega) (by simp [sI, *])
        · skip
          have c34 := kB_t c34
          refine k_iload_n E 3 rfl rfl dX1_paidTo_37 ?_
          refine k_aload_n E 0 rfl rfl dX1_paidTo_38 ?_
          refine k_get E inX1 0 rfl rfl 6 (by decide) q_71 rfl rfl dX1_paidTo_39 ?_
          refine k_iload E 4 rfl dX1_paidTo_42 ?_
          refine k_iald E (j := i) 6 0 rfl rfl rfl (by omega) (by decide) dX1_paidTo_44 ?_
          refine k_iadd E dX1_paidTo_45 ?_
          refine k_istore_n (lv' := [(3, .int (x + (paid i))), (0, .ref h), (1, .int fa), (2, .int b), (4, .int (nI i))]) E rfl (by decide) rfl dX1_paidTo_46 ?_
          refine k_iinc (q := 4) (v := nI (i + 1)) (lv' := [(4, .int (nI (i + 1))), (3, .int (x + (paid i))), (0, .ref h), (1, .int fa), (2, .int b)]) E rfl (nI_inc _) (by decide) rfl dX1_paidTo_47 ?_
          refine k_goto E (tgt := 5) (by decide) dX1_paidTo_50 ?_
          refine k_lv [2, 3, 4, 1, 0] rfl ?_
          exact ih5 (i + 1) (x + (paid i)) (by omega) (by simp [sI, *])
  refine k_iconst E (v := 0) (by decide) dX1_paidTo_0 ?_
  refine k_istore_n (lv' := [(3, .int 0), (0, .ref h), (1, .int fa), (2, .int b)]) E rfl (by decide) rfl dX1_paidTo_1 ?_
  refine k_iconst E (v := 0) (by decide) dX1_paidTo_2 ?_
  refine k_istore (lv' := [(4, .int 0), (3, .int 0), (0, .ref h), (1, .int fa), (2, .int b)]) E (by decide) rfl dX1_paidTo_3 ?_
  refine k_lv [2, 3, 4, 1, 0] rfl ?_
  exact L5 (n - 0) 0 0 (by omega) rfl
set_option maxRecDepth 100000 in
set_option maxHeartbeats 4000000 in
theorem m_X1_blamedOn (l : Launch) (D : va_G) (k : Nat → ClassId) (h : Nat) (a0 : Nat) (a1 : Nat) (a2 : Nat) (a3 : Nat) (a4 : Nat) (a5 : Nat) (a6 : Nat) (n : Nat) (farm : Nat → Int32) (amount : Nat → Int32) (mark : Nat → Int32) (place : Nat → Int32) (number : Nat → Int32) (paid : Nat → Int32) (blamed : Nat → Int32) (fa : Int32) (b : Int32) (hn : n ≤ 100) : mR l yX1_blamedOn cX1_blamedOn 5 (some .int) 1 23 D (kTy k) [.ref h, .int fa, .int b] (wSA k h a0 a1 a2 a3 a4 a5 a6 (nI n) farm amount mark place number paid blamed) (some (.int (sI (fun zi => decide (farm zi = fa) && cIn place number 98 b zi) blamed n))) := by
  refine mR.of (lv' := [(0, .ref h), (1, .int fa), (2, .int b)]) (by decide) (Nat.le_of_ble_eq_true rfl) rfl ?_
  intro p e s m args below meth c E hr hlk
  have L5 : ∀ (dn5 : Nat) (i : Nat) (x : Int32), i + dn5 = n → (x = sI (fun zi => decide (farm zi = fa) && cIn place number 98 b zi) blamed i) → kJ p l e (kRm 1 23) s m args below meth c (gR D s.heap) 5 0 0 (MQ below (kQr (some (.int (sI (fun zi => decide (farm zi = fa) && cIn place number 98 b zi) blamed n)))) args s 0 0 (fun _ => False)) (wSA k h a0 a1 a2 a3 a4 a5 a6 (nI n) farm amount mark place number paid blamed) 5 [(0, .ref h), (1, .int fa), (2, .int b), (3, .int x), (4, .int (nI i))] [] := by
    intro dn5
    induction dn5 with
    | zero =>
      intro i x hd5 hx
      refine k_iload E 4 rfl dX1_blamedOn_5 ?_
      refine k_aload_n E 0 rfl rfl dX1_blamedOn_7 ?_
      refine k_get E inX1 0 rfl rfl 0 (by decide) q_59 rfl rfl dX1_blamedOn_8 ?_
      refine k_icmp_ge E (tgt := 53) (by decide) dX1_blamedOn_11 (fun c11 => ?_) (fun c11 => absurd ((not_congr (nI_leI (a := n) (b := i) (by omega) (by omega))).mp c11) (by omega))
      have c11 := (nI_leI (a := n) (b := i) (by omega) (by omega)).mp c11
      refine k_iload_n E 3 rfl rfl dX1_blamedOn_53 ?_
      exact kr_iret E hr hlk (by rw [hx, show i = n by omega]) dX1_blamedOn_54
    | succ dn5 ih5 =>
      intro i x hd5 hx
      refine k_iload E 4 rfl dX1_blamedOn_5 ?_
      refine k_aload_n E 0 rfl rfl dX1_blamedOn_7 ?_
      refine k_get E inX1 0 rfl rfl 0 (by decide) q_59 rfl rfl dX1_blamedOn_8 ?_
      refine k_icmp_ge E (tgt := 53) (by decide) dX1_blamedOn_11 (fun c11 => absurd ((nI_leI (a := n) (b := i) (by omega) (by omega)).mp c11) (by omega)) (fun c11 => ?_)
      have c11 := (not_congr (nI_leI (a := n) (b := i) (by omega) (by omega))).mp c11
      refine k_aload_n E 0 rfl rfl dX1_blamedOn_14 ?_
      refine k_get E inX1 0 rfl rfl 1 (by decide) q_61 rfl rfl dX1_blamedOn_15 ?_
      refine k_iload E 4 rfl dX1_blamedOn_18 ?_
      refine k_iald E (j := i) 1 0 rfl rfl rfl (by omega) (by decide) dX1_blamedOn_20 ?_
      refine k_iload_n E 1 rfl rfl dX1_blamedOn_21 ?_
      refine k_icmp_ne E (tgt := 47) (by decide) dX1_blamedOn_22 (fun c22 => ?_) (fun c22 => ?_)
      · skip
        refine k_iinc (q := 4) (v := nI (i + 1)) (lv' := [(4, .int (nI (i + 1))), (0, .ref h), (1, .int fa), (2, .int b), (3, .int x)]) E rfl (nI_inc _) (by decide) rfl dX1_blamedOn_47 ?_
        refine k_goto E (tgt := 5) (by decide) dX1_blamedOn_50 ?_
        refine k_lv [1, 2, 3, 4, 0] rfl ?_
        exact ih5 (i + 1) x (by omega) (by simp [sI, *])
      · skip
        refine k_aload_n E 0 rfl rfl dX1_blamedOn_25 ?_
        refine k_iload E 4 rfl dX1_blamedOn_26 ?_
        refine k_bipush E (v := 98) (by decide) dX1_blamedOn_28 ?_
        refine k_iload_n E 2 rfl rfl dX1_blamedOn_30 ?_
        refine k_callRV [.int (nI i), .int 98, .int b] E (m_X1_isIn l D k h a0 a1 a2 a3 a4 a5 a6 n farm amount mark place number paid blamed i 98 b (by first | assumption | omega)) cf_X1_isIn q_132 [0, 1, 2, 3, 4, 5, 6, 7] rfl 0 rfl rfl rfl rfl ⟨by decide, by decide⟩ (Nat.le_of_ble_eq_true rfl) ⟨by decide, by decide⟩ dX1_blamedOn_31 ?_
        refine k_steq (st' := [.int (kB (cIn place number 98 b i))]) rfl ?_
        refine k_if_eq E (tgt := 47) (by decide) dX1_blamedOn_34 (fun c34 => ?_) (fun c34 => ?_)
        · skip
          have c34 := kB_f c34
          refine k_iinc (q := 4) (v := nI (i + 1)) (lv' := [(4, .int (nI (i + 1))), (0, .ref h), (1, .int fa), (2, .int b), (3, .int x)]) E rfl (nI_inc _) (by decide) rfl dX1_blamedOn_47 ?_
          refine k_goto E (tgt := 5) (by decide) dX1_blamedOn_50 ?_
          refine k_lv [1, 2, 3, 4, 0] rfl ?_
          exact ih5 (i + 1) x (by omega) (by simp [sI, *])
        · skip
          have c34 := kB_t c34
          refine k_iload_n E 3 rfl rfl dX1_blamedOn_37 ?_
          refine k_aload_n E 0 rfl rfl dX1_blamedOn_38 ?_
          refine k_get E inX1 0 rfl rfl 7 (by decide) q_72 rfl rfl dX1_blamedOn_39 ?_
          refine k_iload E 4 rfl dX1_blamedOn_42 ?_
          refine k_iald E (j := i) 7 0 rfl rfl rfl (by omega) (by decide) dX1_blamedOn_44 ?_
          refine k_iadd E dX1_blamedOn_45 ?_
          refine k_istore_n (lv' := [(3, .int (x + (blamed i))), (0, .ref h), (1, .int fa), (2, .int b), (4, .int (nI i))]) E rfl (by decide) rfl dX1_blamedOn_46 ?_
          refine k_iinc (q := 4) (v := nI (i + 1)) (lv' := [(4, .int (nI (i + 1))), (3, .int (x + (blamed i))), (0, .ref h), (1, .int fa), (2, .int b)]) E rfl (nI_inc _) (by decide) rfl dX1_blamedOn_47 ?_
          refine k_goto E (tgt := 5) (by decide) dX1_blamedOn_50 ?_
          refine k_lv [2, 3, 4, 1, 0] rfl ?_
          exact ih5 (i + 1) (x + (blamed i)) (by omega) (by simp [sI, *])
  refine k_iconst E (v := 0) (by decide) dX1_blamedOn_0 ?_
  refine k_istore_n (lv' := [(3, .int 0), (0, .ref h), (1, .int fa), (2, .int b)]) E rfl (by decide) rfl dX1_blamedOn_1 ?_
  refine k_iconst E (v := 0) (by decide) dX1_blamedOn_2 ?_
  refine k_istore (lv' := [(4, .int 0), (3, .int 0), (0, .ref h), (1, .int fa), (2, .int b)]) E (by decide) rfl dX1_blamedOn_3 ?_
  refine k_lv [2, 3, 4, 1, 0] rfl ?_
  exact L5 (n - 0) 0 0 (by omega) rfl
set_option maxRecDepth 100000 in
set_option maxHeartbeats 4000000 in
theorem m_X1_balanceOf (l : Launch) (D : va_G) (k : Nat → ClassId) (h : Nat) (a0 : Nat) (a1 : Nat) (a2 : Nat) (a3 : Nat) (a4 : Nat) (a5 : Nat) (a6 : Nat) (n : Nat) (farm : Nat → Int32) (amount : Nat → Int32) (mark : Nat → Int32) (place : Nat → Int32) (number : Nat → Int32) (paid : Nat → Int32) (blamed : Nat → Int32) (fa : Int32) (hn : n ≤ 100) : mR l yX1_balanceOf cX1_balanceOf 5 (some .long) 0 0 D (kTy k) [.ref h, .int fa] (wSA k h a0 a1 a2 a3 a4 a5 a6 (nI n) farm amount mark place number paid blamed) (some (.long (sL (fun zi => decide (farm zi = fa)) (fun zi => (paid zi - blamed zi).toInt64) n))) := by
  refine mR.of (lv' := [(0, .ref h), (1, .int fa)]) (by decide) (Nat.le_of_ble_eq_true rfl) rfl ?_
  intro p e s m args below meth c E hr hlk
  have L5 : ∀ (dn5 : Nat) (i : Nat) (x : Int64), i + dn5 = n → (x = sL (fun zi => decide (farm zi = fa)) (fun zi => (paid zi - blamed zi).toInt64) i) → kJ p l e (kRm 0 0) s m args below meth c (gR D s.heap) 5 0 0 (MQ below (kQr (some (.long (sL (fun zi => decide (farm zi = fa)) (fun zi => (paid zi - blamed zi).toInt64) n)))) args s 0 0 (fun _ => False)) (wSA k h a0 a1 a2 a3 a4 a5 a6 (nI n) farm amount mark place number paid blamed) 5 [(0, .ref h), (1, .int fa), (2, .long x), (4, .int (nI i))] [] := by
    intro dn5
    induction dn5 with
    | zero =>
      intro i x hd5 hx
      refine k_iload E 3 rfl dX1_balanceOf_5 ?_
      refine k_aload_n E 0 rfl rfl dX1_balanceOf_7 ?_
      refine k_get E inX1 0 rfl rfl 0 (by decide) q_59 rfl rfl dX1_balanceOf_8 ?_
      refine k_icmp_ge E (tgt := 50) (by decide) dX1_balanceOf_11 (fun c11 => ?_) (fun c11 => absurd ((not_congr (nI_leI (a := n) (b := i) (by omega) (by omega))).mp c11) (by omega))
      have c11 := (nI_leI (a := n) (b := i) (by omega) (by omega)).mp c11
      refine k_lload_n E 2 rfl rfl dX1_balanceOf_50 ?_
      exact kr_lret E hr hlk (by rw [hx, show i = n by omega]) dX1_balanceOf_51
    | succ dn5 ih5 =>
      intro i x hd5 hx
      refine k_iload E 3 rfl dX1_balanceOf_5 ?_
      refine k_aload_n E 0 rfl rfl dX1_balanceOf_7 ?_
      refine k_get E inX1 0 rfl rfl 0 (by decide) q_59 rfl rfl dX1_balanceOf_8 ?_
      refine k_icmp_ge E (tgt := 50) (by decide) dX1_balanceOf_11 (fun c11 => absurd ((nI_leI (a := n) (b := i) (by omega) (by omega)).mp c11) (by omega)) (fun c11 => ?_)
      have c11 := (not_congr (nI_leI (a := n) (b := i) (by omega) (by omega))).mp c11
      refine k_aload_n E 0 rfl rfl dX1_balanceOf_14 ?_
      refine k_get E inX1 0 rfl rfl 1 (by decide) q_61 rfl rfl dX1_balanceOf_15 ?_
      refine k_iload E 3 rfl dX1_balanceOf_18 ?_
      refine k_iald E (j := i) 1 0 rfl rfl rfl (by omega) (by decide) dX1_balanceOf_20 ?_
      refine k_iload_n E 1 rfl rfl dX1_balanceOf_21 ?_
      refine k_icmp_ne E (tgt := 44) (by decide) dX1_balanceOf_22 (fun c22 => ?_) (fun c22 => ?_)
      · skip
        refine k_iinc (q := 3) (v := nI (i + 1)) (lv' := [(4, .int (nI (i + 1))), (0, .ref h), (1, .int fa), (2, .long x)]) E rfl (nI_inc _) (by decide) rfl dX1_balanceOf_44 ?_
        refine k_goto E (tgt := 5) (by decide) dX1_balanceOf_47 ?_
        refine k_lv [1, 2, 3, 0] rfl ?_
        exact ih5 (i + 1) x (by omega) (by simp [sL, *])
      · skip
        refine k_lload_n E 2 rfl rfl dX1_balanceOf_25 ?_
        refine k_aload_n E 0 rfl rfl dX1_balanceOf_26 ?_
        refine k_get E inX1 0 rfl rfl 6 (by decide) q_71 rfl rfl dX1_balanceOf_27 ?_
        refine k_iload E 3 rfl dX1_balanceOf_30 ?_
        refine k_iald E (j := i) 6 0 rfl rfl rfl (by omega) (by decide) dX1_balanceOf_32 ?_
        refine k_aload_n E 0 rfl rfl dX1_balanceOf_33 ?_
        refine k_get E inX1 0 rfl rfl 7 (by decide) q_72 rfl rfl dX1_balanceOf_34 ?_
        refine k_iload E 3 rfl dX1_balanceOf_37 ?_
        refine k_iald E (j := i) 7 0 rfl rfl rfl (by omega) (by decide) dX1_balanceOf_39 ?_
        refine k_isub E dX1_balanceOf_40 ?_
        refine k_i2l E (v := ((paid i) - (blamed i)).toInt64) rfl dX1_balanceOf_41 ?_
        refine k_ladd E dX1_balanceOf_42 ?_
        refine k_lstore_n (lv' := [(2, .long (x + (((paid i) - (blamed i)).toInt64))), (0, .ref h), (1, .int fa), (4, .int (nI i))]) E rfl (by decide) rfl dX1_balanceOf_43 ?_
        refine k_iinc (q := 3) (v := nI (i + 1)) (lv' := [(4, .int (nI (i + 1))), (2, .long (x + (((paid i) - (blamed i)).toInt64))), (0, .ref h), (1, .int fa)]) E rfl (nI_inc _) (by decide) rfl dX1_balanceOf_44 ?_
        refine k_goto E (tgt := 5) (by decide) dX1_balanceOf_47 ?_
        refine k_lv [2, 3, 1, 0] rfl ?_
        exact ih5 (i + 1) (x + (((paid i) - (blamed i)).toInt64)) (by omega) (by simp [sL, *])
  refine k_lconst E (v := 0) (by decide) dX1_balanceOf_0 ?_
  refine k_lstore_n (lv' := [(2, .long 0), (0, .ref h), (1, .int fa)]) E rfl (by decide) rfl dX1_balanceOf_1 ?_
  refine k_iconst E (v := 0) (by decide) dX1_balanceOf_2 ?_
  refine k_istore (lv' := [(4, .int 0), (2, .long 0), (0, .ref h), (1, .int fa)]) E (by decide) rfl dX1_balanceOf_3 ?_
  refine k_lv [2, 3, 1, 0] rfl ?_
  exact L5 (n - 0) 0 0 (by omega) rfl
set_option maxRecDepth 100000 in
set_option maxHeartbeats 4000000 in
theorem m_X1_add (l : Launch) (D : va_G) (k : Nat → ClassId) (h : Nat) (a0 : Nat) (a1 : Nat) (a2 : Nat) (a3 : Nat) (a4 : Nat) (a5 : Nat) (a6 : Nat) (n : Nat) (farm : Nat → Int32) (amount : Nat → Int32) (mark : Nat → Int32) (place : Nat → Int32) (number : Nat → Int32) (paid : Nat → Int32) (blamed : Nat → Int32) (fa : Int32) (li : Int32) (hn : n < 100) : mW l yX1_add cX1_add 3 none 0 0 0 0 D (kTy k) [.ref h, .int fa, .int li] (wSA k h a0 a1 a2 a3 a4 a5 a6 (nI n) farm amount mark place number paid blamed) none (wSA k h a0 a1 a2 a3 a4 a5 a6 (nI (n + 1)) (upd farm n fa) (upd amount n li) (upd mark n 45) (upd place n 116) (upd number n 0) paid blamed) := by
  refine mW.of (lv' := [(0, .ref h), (1, .int fa), (2, .int li)]) (by decide) (Nat.le_of_ble_eq_true rfl) rfl ?_
  intro p e s m args below meth c E hr hlk hm hA
  refine k_aload_n E 0 rfl rfl dX1_add_0 ?_
  refine k_get E inX1 0 rfl rfl 1 (by decide) q_61 rfl rfl dX1_add_1 ?_
  refine k_aload_n E 0 rfl rfl dX1_add_4 ?_
  refine k_get E inX1 0 rfl rfl 0 (by decide) q_59 rfl rfl dX1_add_5 ?_
  refine k_iload_n E 1 rfl rfl dX1_add_8 ?_
  refine k_iast (y := fa) (j := n) (ws' := (wSA k h a0 a1 a2 a3 a4 a5 a6 (nI n) (upd farm n fa) amount mark place number paid blamed)) E 1 0 rfl rfl rfl (by omega) (by decide) rfl rfl dX1_add_9 ?_
  refine k_aload_n E 0 rfl rfl dX1_add_10 ?_
  refine k_get E inX1 0 rfl rfl 2 (by decide) q_63 rfl rfl dX1_add_11 ?_
  refine k_aload_n E 0 rfl rfl dX1_add_14 ?_
  refine k_get E inX1 0 rfl rfl 0 (by decide) q_59 rfl rfl dX1_add_15 ?_
  refine k_iload_n E 2 rfl rfl dX1_add_18 ?_
  refine k_iast (y := li) (j := n) (ws' := (wSA k h a0 a1 a2 a3 a4 a5 a6 (nI n) (upd farm n fa) (upd amount n li) mark place number paid blamed)) E 2 0 rfl rfl rfl (by omega) (by decide) rfl rfl dX1_add_19 ?_
  refine k_aload_n E 0 rfl rfl dX1_add_20 ?_
  refine k_get E inX1 0 rfl rfl 3 (by decide) q_65 rfl rfl dX1_add_21 ?_
  refine k_aload_n E 0 rfl rfl dX1_add_24 ?_
  refine k_get E inX1 0 rfl rfl 0 (by decide) q_59 rfl rfl dX1_add_25 ?_
  refine k_bipush E (v := 45) (by decide) dX1_add_28 ?_
  refine k_cast (y := 45) (j := n) (ws' := (wSA k h a0 a1 a2 a3 a4 a5 a6 (nI n) (upd farm n fa) (upd amount n li) (upd mark n 45) place number paid blamed)) E 3 1 rfl rfl rfl (by omega) (by decide) (by decide) rfl dX1_add_30 ?_
  refine k_aload_n E 0 rfl rfl dX1_add_31 ?_
  refine k_get E inX1 0 rfl rfl 4 (by decide) q_67 rfl rfl dX1_add_32 ?_
  refine k_aload_n E 0 rfl rfl dX1_add_35 ?_
  refine k_get E inX1 0 rfl rfl 0 (by decide) q_59 rfl rfl dX1_add_36 ?_
  refine k_bipush E (v := 116) (by decide) dX1_add_39 ?_
  refine k_cast (y := 116) (j := n) (ws' := (wSA k h a0 a1 a2 a3 a4 a5 a6 (nI n) (upd farm n fa) (upd amount n li) (upd mark n 45) (upd place n 116) number paid blamed)) E 4 1 rfl rfl rfl (by omega) (by decide) (by decide) rfl dX1_add_41 ?_
  refine k_aload_n E 0 rfl rfl dX1_add_42 ?_
  refine k_get E inX1 0 rfl rfl 5 (by decide) q_69 rfl rfl dX1_add_43 ?_
  refine k_aload_n E 0 rfl rfl dX1_add_46 ?_
  refine k_get E inX1 0 rfl rfl 0 (by decide) q_59 rfl rfl dX1_add_47 ?_
  refine k_iconst E (v := 0) (by decide) dX1_add_50 ?_
  refine k_iast (y := 0) (j := n) (ws' := (wSA k h a0 a1 a2 a3 a4 a5 a6 (nI n) (upd farm n fa) (upd amount n li) (upd mark n 45) (upd place n 116) (upd number n 0) paid blamed)) E 5 0 rfl rfl rfl (by omega) (by decide) rfl rfl dX1_add_51 ?_
  refine k_aload_n E 0 rfl rfl dX1_add_52 ?_
  refine k_dup E rfl dX1_add_53 ?_
  refine k_get E inX1 0 rfl rfl 0 (by decide) q_59 rfl rfl dX1_add_54 ?_
  refine k_iconst E (v := 1) (by decide) dX1_add_57 ?_
  refine k_iadd E dX1_add_58 ?_
  refine k_steq (st' := [.int (nI (n + 1)), .ref h]) (by rw [show (nI n) + 1 = nI (n + 1) from nI_1 n]) ?_
  refine k_put (ws' := (wSA k h a0 a1 a2 a3 a4 a5 a6 (nI (n + 1)) (upd farm n fa) (upd amount n li) (upd mark n 45) (upd place n 116) (upd number n 0) paid blamed)) E inX1 tyX1 tyX1_ok nmX1 0 rfl rfl 0 (by decide) q_59 rfl rfl rfl rfl (Nat.le_of_ble_eq_true rfl) rfl dX1_add_59 ?_
  exact kw_vret E hr hlk rfl rfl (by decide) (by decide) dX1_add_62
set_option maxRecDepth 100000 in
set_option maxHeartbeats 4000000 in
theorem m_X1_move (l : Launch) (D : va_G) (k : Nat → ClassId) (h : Nat) (a0 : Nat) (a1 : Nat) (a2 : Nat) (a3 : Nat) (a4 : Nat) (a5 : Nat) (a6 : Nat) (n : Nat) (farm : Nat → Int32) (amount : Nat → Int32) (mark : Nat → Int32) (place : Nat → Int32) (number : Nat → Int32) (paid : Nat → Int32) (blamed : Nat → Int32) (wh : Int32) (wi : Int32) (tw : Int32) (ti : Int32) (hn : n ≤ 100) (hnar : vp_nar .char tw = tw) : mW l yX1_move cX1_move 6 none 1 23 0 0 D (kTy k) [.ref h, .int wh, .int wi, .int tw, .int ti] (wSA k h a0 a1 a2 a3 a4 a5 a6 (nI n) farm amount mark place number paid blamed) none (wSA k h a0 a1 a2 a3 a4 a5 a6 (nI n) farm amount mark (wr (cIn place number wh wi) (fun _ => tw) place n) (wr (cIn place number wh wi) (fun _ => ti) number n) paid blamed) := by
  refine mW.of (lv' := [(0, .ref h), (1, .int wh), (2, .int wi), (3, .int tw), (4, .int ti)]) (by decide) (Nat.le_of_ble_eq_true rfl) rfl ?_
  intro p e s m args below meth c E hr hlk hm hA
  have L3 : ∀ (dn3 : Nat) (i : Nat) (pf : Nat → Int32) (nu : Nat → Int32), i + dn3 = n → (pf = wr (cIn place number wh wi) (fun _ => tw) place i) → (nu = wr (cIn place number wh wi) (fun _ => ti) number i) → kJ p l e (kRmc 1 23 0 0) s m args below meth c (gW D (va_A (wSA k h a0 a1 a2 a3 a4 a5 a6 (nI n) farm amount mark place number paid blamed) s.heap.size) s.heap) 6 0 0 (MQ below (kQw none D (wSA k h a0 a1 a2 a3 a4 a5 a6 (nI n) farm amount mark place number paid blamed) (wSA k h a0 a1 a2 a3 a4 a5 a6 (nI n) farm amount mark (wr (cIn place number wh wi) (fun _ => tw) place n) (wr (cIn place number wh wi) (fun _ => ti) number n) paid blamed) s.heap.size) args s 0 0 (va_A (wSA k h a0 a1 a2 a3 a4 a5 a6 (nI n) farm amount mark place number paid blamed) s.heap.size)) (wSA k h a0 a1 a2 a3 a4 a5 a6 (nI n) farm amount mark pf nu paid blamed) 3 [(0, .ref h), (1, .int wh), (2, .int wi), (3, .int tw), (4, .int ti), (5, .int (nI i))] [] := by
    intro dn3
    induction dn3 with
    | zero =>
      intro i pf nu hd3 hp hq
      refine k_iload E 5 rfl dX1_move_3 ?_
      refine k_aload_n E 0 rfl rfl dX1_move_5 ?_
      refine k_get E inX1 0 rfl rfl 0 (by decide) q_59 rfl rfl dX1_move_6 ?_
      refine k_icmp_ge E (tgt := 46) (by decide) dX1_move_9 (fun c9 => ?_) (fun c9 => absurd ((not_congr (nI_leI (a := n) (b := i) (by omega) (by omega))).mp c9) (by omega))
      have c9 := (nI_leI (a := n) (b := i) (by omega) (by omega)).mp c9
      exact kw_vret E hr hlk rfl (by rw [hp, hq, show i = n by omega]) (by decide) (by decide) dX1_move_46
    | succ dn3 ih3 =>
      intro i pf nu hd3 hp hq
      refine k_iload E 5 rfl dX1_move_3 ?_
      refine k_aload_n E 0 rfl rfl dX1_move_5 ?_
      refine k_get E inX1 0 rfl rfl 0 (by decide) q_59 rfl rfl dX1_move_6 ?_
      refine k_icmp_ge E (tgt := 46) (by decide) dX1_move_9 (fun c9 => absurd ((nI_leI (a := n) (b := i) (by omega) (by omega)).mp c9) (by omega)) (fun c9 => ?_)
      have c9 := (not_congr (nI_leI (a := n) (b := i) (by omega) (by omega))).mp c9
      refine k_aload_n E 0 rfl rfl dX1_move_12 ?_
      refine k_iload E 5 rfl dX1_move_13 ?_
      refine k_iload_n E 1 rfl rfl dX1_move_15 ?_
      refine k_iload_n E 2 rfl rfl dX1_move_16 ?_
      refine k_callRV [.int (nI i), .int wh, .int wi] E (m_X1_isIn l D k h a0 a1 a2 a3 a4 a5 a6 n farm amount mark pf nu paid blamed i wh wi (by first | assumption | omega)) cf_X1_isIn q_132 [0, 1, 2, 3, 4, 5, 6, 7] rfl 0 rfl rfl rfl rfl ⟨by decide, by decide⟩ (Nat.le_of_ble_eq_true rfl) ⟨by decide, by decide⟩ dX1_move_17 ?_
      refine k_steq (st' := [.int (kB (cIn pf nu wh wi i))]) rfl ?_
      refine k_if_eq E (tgt := 40) (by decide) dX1_move_20 (fun c20 => ?_) (fun c20 => ?_)
      · skip
        have c20 := kB_f c20
        have c20 : cIn place number wh wi i = false := by simpa [cIn, hp, hq, wr_at] using c20
        refine k_iinc (q := 5) (v := nI (i + 1)) (lv' := [(5, .int (nI (i + 1))), (0, .ref h), (1, .int wh), (2, .int wi), (3, .int tw), (4, .int ti)]) E rfl (nI_inc _) (by decide) rfl dX1_move_40 ?_
        refine k_goto E (tgt := 3) (by decide) dX1_move_43 ?_
        refine k_lv [1, 2, 3, 4, 5, 0] rfl ?_
        exact ih3 (i + 1) pf nu (by omega) (by rw [hp]; first | exact wr_t c20 | exact wr_f c20) (by rw [hq]; first | exact wr_t c20 | exact wr_f c20)
      · skip
        have c20 := kB_t c20
        have c20 : cIn place number wh wi i = true := by simpa [cIn, hp, hq, wr_at] using c20
        refine k_aload_n E 0 rfl rfl dX1_move_23 ?_
        refine k_get E inX1 0 rfl rfl 4 (by decide) q_67 rfl rfl dX1_move_24 ?_
        refine k_iload E 5 rfl dX1_move_27 ?_
        refine k_iload_n E 3 rfl rfl dX1_move_29 ?_
        refine k_cast (y := tw) (j := i) (ws' := (wSA k h a0 a1 a2 a3 a4 a5 a6 (nI n) farm amount mark (upd pf i tw) nu paid blamed)) E 4 1 rfl rfl rfl (by omega) (by decide) hnar rfl dX1_move_30 ?_
        refine k_aload_n E 0 rfl rfl dX1_move_31 ?_
        refine k_get E inX1 0 rfl rfl 5 (by decide) q_69 rfl rfl dX1_move_32 ?_
        refine k_iload E 5 rfl dX1_move_35 ?_
        refine k_iload E 4 rfl dX1_move_37 ?_
        refine k_iast (y := ti) (j := i) (ws' := (wSA k h a0 a1 a2 a3 a4 a5 a6 (nI n) farm amount mark (upd pf i tw) (upd nu i ti) paid blamed)) E 5 0 rfl rfl rfl (by omega) (by decide) rfl rfl dX1_move_39 ?_
        refine k_iinc (q := 5) (v := nI (i + 1)) (lv' := [(5, .int (nI (i + 1))), (0, .ref h), (1, .int wh), (2, .int wi), (3, .int tw), (4, .int ti)]) E rfl (nI_inc _) (by decide) rfl dX1_move_40 ?_
        refine k_goto E (tgt := 3) (by decide) dX1_move_43 ?_
        refine k_lv [1, 2, 3, 4, 5, 0] rfl ?_
        exact ih3 (i + 1) (upd pf i tw) (upd nu i ti) (by omega) (by rw [hp]; first | exact wr_t c20 | exact wr_f c20) (by rw [hq]; first | exact wr_t c20 | exact wr_f c20)
  refine k_iconst E (v := 0) (by decide) dX1_move_0 ?_
  refine k_istore (lv' := [(5, .int 0), (0, .ref h), (1, .int wh), (2, .int wi), (3, .int tw), (4, .int ti)]) E (by decide) rfl dX1_move_1 ?_
  refine k_lv [1, 2, 3, 4, 5, 0] rfl ?_
  exact L3 (n - 0) 0 place number (by omega) (wr_0 _ _ _).symm (wr_0 _ _ _).symm
set_option maxRecDepth 100000 in
set_option maxHeartbeats 4000000 in
theorem m_X1_settlePay (l : Launch) (D : va_G) (k : Nat → ClassId) (h : Nat) (a0 : Nat) (a1 : Nat) (a2 : Nat) (a3 : Nat) (a4 : Nat) (a5 : Nat) (a6 : Nat) (n : Nat) (farm : Nat → Int32) (amount : Nat → Int32) (mark : Nat → Int32) (place : Nat → Int32) (number : Nat → Int32) (paid : Nat → Int32) (blamed : Nat → Int32) (b : Int32) (hn : n ≤ 100) : mW l yX1_settlePay cX1_settlePay 3 none 2 41 0 0 D (kTy k) [.ref h, .int b] (wSA k h a0 a1 a2 a3 a4 a5 a6 (nI n) farm amount mark place number paid blamed) none (wSA k h a0 a1 a2 a3 a4 a5 a6 (nI n) farm amount mark place number (wr (cIn place number 98 b) (fun zi => amount zi * cents (mark zi)) paid n) blamed) := by
  refine mW.of (lv' := [(0, .ref h), (1, .int b)]) (by decide) (Nat.le_of_ble_eq_true rfl) rfl ?_
  intro p e s m args below meth c E hr hlk hm hA
  have L2 : ∀ (dn2 : Nat) (i : Nat) (pd : Nat → Int32), i + dn2 = n → (pd = wr (cIn place number 98 b) (fun zi => amount zi * cents (mark zi)) paid i) → kJ p l e (kRmc 2 41 0 0) s m args below meth c (gW D (va_A (wSA k h a0 a1 a2 a3 a4 a5 a6 (nI n) farm amount mark place number paid blamed) s.heap.size) s.heap) 3 0 0 (MQ below (kQw none D (wSA k h a0 a1 a2 a3 a4 a5 a6 (nI n) farm amount mark place number paid blamed) (wSA k h a0 a1 a2 a3 a4 a5 a6 (nI n) farm amount mark place number (wr (cIn place number 98 b) (fun zi => amount zi * cents (mark zi)) paid n) blamed) s.heap.size) args s 0 0 (va_A (wSA k h a0 a1 a2 a3 a4 a5 a6 (nI n) farm amount mark place number paid blamed) s.heap.size)) (wSA k h a0 a1 a2 a3 a4 a5 a6 (nI n) farm amount mark place number pd blamed) 2 [(0, .ref h), (1, .int b), (2, .int (nI i))] [] := by
    intro dn2
    induction dn2 with
    | zero =>
      intro i pd hd2 hp
      refine k_iload_n E 2 rfl rfl dX1_settlePay_2 ?_
      refine k_aload_n E 0 rfl rfl dX1_settlePay_3 ?_
      refine k_get E inX1 0 rfl rfl 0 (by decide) q_59 rfl rfl dX1_settlePay_4 ?_
      refine k_icmp_ge E (tgt := 38) (by decide) dX1_settlePay_7 (fun c7 => ?_) (fun c7 => absurd ((not_congr (nI_leI (a := n) (b := i) (by omega) (by omega))).mp c7) (by omega))
      have c7 := (nI_leI (a := n) (b := i) (by omega) (by omega)).mp c7
      exact kw_vret E hr hlk rfl (by rw [hp, show i = n by omega]) (by decide) (by decide) dX1_settlePay_38
    | succ dn2 ih2 =>
      intro i pd hd2 hp
      refine k_iload_n E 2 rfl rfl dX1_settlePay_2 ?_
      refine k_aload_n E 0 rfl rfl dX1_settlePay_3 ?_
      refine k_get E inX1 0 rfl rfl 0 (by decide) q_59 rfl rfl dX1_settlePay_4 ?_
      refine k_icmp_ge E (tgt := 38) (by decide) dX1_settlePay_7 (fun c7 => absurd ((nI_leI (a := n) (b := i) (by omega) (by omega)).mp c7) (by omega)) (fun c7 => ?_)
      have c7 := (not_congr (nI_leI (a := n) (b := i) (by omega) (by omega))).mp c7
      refine k_aload_n E 0 rfl rfl dX1_settlePay_10 ?_
      refine k_iload_n E 2 rfl rfl dX1_settlePay_11 ?_
      refine k_bipush E (v := 98) (by decide) dX1_settlePay_12 ?_
      refine k_iload_n E 1 rfl rfl dX1_settlePay_14 ?_
      refine k_callRV [.int (nI i), .int 98, .int b] E (m_X1_isIn l D k h a0 a1 a2 a3 a4 a5 a6 n farm amount mark place number pd blamed i 98 b (by first | assumption | omega)) cf_X1_isIn q_132 [0, 1, 2, 3, 4, 5, 6, 7] rfl 0 rfl rfl rfl rfl ⟨by decide, by decide⟩ (Nat.le_of_ble_eq_true rfl) ⟨by decide, by decide⟩ dX1_settlePay_15 ?_
      refine k_steq (st' := [.int (kB (cIn place number 98 b i))]) rfl ?_
      refine k_if_eq E (tgt := 32) (by decide) dX1_settlePay_18 (fun c18 => ?_) (fun c18 => ?_)
      · skip
        have c18 := kB_f c18
        refine k_iinc (q := 2) (v := nI (i + 1)) (lv' := [(2, .int (nI (i + 1))), (0, .ref h), (1, .int b)]) E rfl (nI_inc _) (by decide) rfl dX1_settlePay_32 ?_
        refine k_goto E (tgt := 2) (by decide) dX1_settlePay_35 ?_
        refine k_lv [1, 2, 0] rfl ?_
        exact ih2 (i + 1) pd (by omega) (by rw [hp]; first | exact wr_t (v := fun zi => amount zi * cents (mark zi)) c18 | exact wr_f c18)
      · skip
        have c18 := kB_t c18
        refine k_aload_n E 0 rfl rfl dX1_settlePay_21 ?_
        refine k_get E inX1 0 rfl rfl 6 (by decide) q_71 rfl rfl dX1_settlePay_22 ?_
        refine k_iload_n E 2 rfl rfl dX1_settlePay_25 ?_
        refine k_aload_n E 0 rfl rfl dX1_settlePay_26 ?_
        refine k_iload_n E 2 rfl rfl dX1_settlePay_27 ?_
        refine k_callRV [.int (nI i)] E (m_X1_valueOfSample l D k h a0 a1 a2 a3 a4 a5 a6 n farm amount mark place number pd blamed i (by first | assumption | omega)) cf_X1_valueOfSample q_486 [0, 1, 2, 3, 4, 5, 6, 7] rfl 0 rfl rfl rfl rfl ⟨by decide, by decide⟩ (Nat.le_of_ble_eq_true rfl) ⟨by decide, by decide⟩ dX1_settlePay_28 ?_
        refine k_steq (st' := [.int (amount i * cents (mark i)), .int (nI i), .ref a5]) rfl ?_
        refine k_iast (y := amount i * cents (mark i)) (j := i) (ws' := (wSA k h a0 a1 a2 a3 a4 a5 a6 (nI n) farm amount mark place number (upd pd i (amount i * cents (mark i))) blamed)) E 6 0 rfl rfl rfl (by omega) (by decide) rfl rfl dX1_settlePay_31 ?_
        refine k_iinc (q := 2) (v := nI (i + 1)) (lv' := [(2, .int (nI (i + 1))), (0, .ref h), (1, .int b)]) E rfl (nI_inc _) (by decide) rfl dX1_settlePay_32 ?_
        refine k_goto E (tgt := 2) (by decide) dX1_settlePay_35 ?_
        refine k_lv [1, 2, 0] rfl ?_
        exact ih2 (i + 1) (upd pd i (amount i * cents (mark i))) (by omega) (by rw [hp]; first | exact wr_t (v := fun zi => amount zi * cents (mark zi)) c18 | exact wr_f c18)
  refine k_iconst E (v := 0) (by decide) dX1_settlePay_0 ?_
  refine k_istore_n (lv' := [(2, .int 0), (0, .ref h), (1, .int b)]) E rfl (by decide) rfl dX1_settlePay_1 ?_
  refine k_lv [1, 2, 0] rfl ?_
  exact L2 (n - 0) 0 paid (by omega) (wr_0 _ _ _).symm
set_option maxRecDepth 100000 in
set_option maxHeartbeats 4000000 in
theorem m_X1_settleBlame (l : Launch) (D : va_G) (k : Nat → ClassId) (h : Nat) (a0 : Nat) (a1 : Nat) (a2 : Nat) (a3 : Nat) (a4 : Nat) (a5 : Nat) (a6 : Nat) (n : Nat) (farm : Nat → Int32) (amount : Nat → Int32) (mark : Nat → Int32) (place : Nat → Int32) (number : Nat → Int32) (paid : Nat → Int32) (blamed : Nat → Int32) (b : Int32) (sp : Int32) (hn : n ≤ 100) (hsp : ¬ sp = 0) : mW l yX1_settleBlame cX1_settleBlame 6 none 3 64 0 0 D (kTy k) [.ref h, .int b, .int sp] (wSA k h a0 a1 a2 a3 a4 a5 a6 (nI n) farm amount mark place number paid blamed) none (wSA k h a0 a1 a2 a3 a4 a5 a6 (nI n) farm amount mark place number paid (bl2 mark place number amount blamed b sp n)) := by
  refine mW.of (lv' := [(0, .ref h), (1, .int b), (2, .int sp)]) (by decide) (Nat.le_of_ble_eq_true rfl) rfl ?_
  intro p e s m args below meth c E hr hlk hm hA
  have L70 : ∀ (dn70 : Nat) (i : Nat) (bf : Nat → Int32) (x : Int32), i + dn70 = n → (bf = wr (pl (cSp mark place number b) (lft mark place number amount b sp (valB mark place number amount b n) n)) (fun j => (bl1 mark place number amount blamed b sp (valB mark place number amount b n) n) j + 1) (bl1 mark place number amount blamed b sp (valB mark place number amount b n) n) i) → (x = lf (cSp mark place number b) (lft mark place number amount b sp (valB mark place number amount b n) n) i) → kJ p l e (kRmc 3 64 0 0) s m args below meth c (gW D (va_A (wSA k h a0 a1 a2 a3 a4 a5 a6 (nI n) farm amount mark place number paid blamed) s.heap.size) s.heap) 6 0 0 (MQ below (kQw none D (wSA k h a0 a1 a2 a3 a4 a5 a6 (nI n) farm amount mark place number paid blamed) (wSA k h a0 a1 a2 a3 a4 a5 a6 (nI n) farm amount mark place number paid (bl2 mark place number amount blamed b sp n)) s.heap.size) args s 0 0 (va_A (wSA k h a0 a1 a2 a3 a4 a5 a6 (nI n) farm amount mark place number paid blamed) s.heap.size)) (wSA k h a0 a1 a2 a3 a4 a5 a6 (nI n) farm amount mark place number paid bf) 70 [(0, .ref h), (1, .int b), (4, .int x), (5, .int (nI i))] [] := by
    intro dn70
    induction dn70 with
    | zero =>
      intro i bf x hd70 hb hx
      refine k_iload E 3 rfl dX1_settleBlame_70 ?_
      refine k_aload_n E 0 rfl rfl dX1_settleBlame_72 ?_
      refine k_get E inX1 0 rfl rfl 0 (by decide) q_59 rfl rfl dX1_settleBlame_73 ?_
      refine k_icmp_ge E (tgt := 114) (by decide) dX1_settleBlame_76 (fun c76 => ?_) (fun c76 => absurd ((not_congr (nI_leI (a := n) (b := i) (by omega) (by omega))).mp c76) (by omega))
      have c76 := (nI_leI (a := n) (b := i) (by omega) (by omega)).mp c76
      exact kw_vret E hr hlk rfl (by first | (rw [hb, show i = n by omega]; rfl) | (rw [hb, wr_stop (n := n) (fun q => absurd q (by rw [← hx]; exact Int32.not_lt.mpr c81)) (by omega)]; rfl)) (by decide) (by decide) dX1_settleBlame_114
    | succ dn70 ih70 =>
      intro i bf x hd70 hb hx
      refine k_iload E 3 rfl dX1_settleBlame_70 ?_
      refine k_aload_n E 0 rfl rfl dX1_settleBlame_72 ?_
      refine k_get E inX1 0 rfl rfl 0 (by decide) q_59 rfl rfl dX1_settleBlame_73 ?_
      refine k_icmp_ge E (tgt := 114) (by decide) dX1_settleBlame_76 (fun c76 => absurd ((nI_leI (a := n) (b := i) (by omega) (by omega)).mp c76) (by omega)) (fun c76 => ?_)
      have c76 := (not_congr (nI_leI (a := n) (b := i) (by omega) (by omega))).mp c76
      refine k_iload E 2 rfl dX1_settleBlame_79 ?_
      refine k_if_le E (tgt := 114) (by decide) dX1_settleBlame_81 (fun c81 => ?_) (fun c81 => ?_)
      · skip
        exact kw_vret E hr hlk rfl (by first | (rw [hb, show i = n by omega]; rfl) | (rw [hb, wr_stop (n := n) (fun q => absurd q (by rw [← hx]; exact Int32.not_lt.mpr c81)) (by omega)]; rfl)) (by decide) (by decide) dX1_settleBlame_114
      · skip
        refine k_aload_n E 0 rfl rfl dX1_settleBlame_84 ?_
        refine k_iload E 3 rfl dX1_settleBlame_85 ?_
        refine k_iload_n E 1 rfl rfl dX1_settleBlame_87 ?_
        refine k_callRV [.int (nI i), .int b] E (m_X1_isSpoiltIn l D k h a0 a1 a2 a3 a4 a5 a6 n farm amount mark place number paid bf i b (by first | assumption | omega)) cf_X1_isSpoiltIn q_474 [0, 1, 2, 3, 4, 5, 6, 7] rfl 0 rfl rfl rfl rfl ⟨by decide, by decide⟩ (Nat.le_of_ble_eq_true rfl) ⟨by decide, by decide⟩ dX1_settleBlame_88 ?_
        refine k_steq (st' := [.int (kB (cSp mark place number b i))]) rfl ?_
        refine k_if_eq E (tgt := 108) (by decide) dX1_settleBlame_91 (fun c91 => ?_) (fun c91 => ?_)
        · skip
          have c91 := kB_f c91
          refine k_iinc (q := 3) (v := nI (i + 1)) (lv' := [(5, .int (nI (i + 1))), (0, .ref h), (1, .int b), (4, .int x)]) E rfl (nI_inc _) (by decide) rfl dX1_settleBlame_108 ?_
          refine k_goto E (tgt := 70) (by decide) dX1_settleBlame_111 ?_
          refine k_lv [1, 2, 3, 0] rfl ?_
          exact ih70 (i + 1) bf x (by omega) (by first | (rw [hb, wr_at]; exact wr_t (v := fun j => (bl1 mark place number amount blamed b sp (valB mark place number amount b n) n) j + 1) (by simp [pl, c91, ← hx, Int32.not_le.mp c81])) | (rw [hb]; exact wr_f (by simp [pl, c91]))) (by first | (simp [lf, c91, ← hx, Int32.not_le.mp c81]; done) | (simp [lf, c91, hx]; done))
        · skip
          have c91 := kB_t c91
          refine k_aload_n E 0 rfl rfl dX1_settleBlame_94 ?_
          refine k_get E inX1 0 rfl rfl 7 (by decide) q_72 rfl rfl dX1_settleBlame_95 ?_
          refine k_iload E 3 rfl dX1_settleBlame_98 ?_
          refine k_dup2 E rfl rfl dX1_settleBlame_100 ?_
          refine k_iald E (j := i) 7 0 rfl rfl rfl (by omega) (by decide) dX1_settleBlame_101 ?_
          refine k_iconst E (v := 1) (by decide) dX1_settleBlame_102 ?_
          refine k_iadd E dX1_settleBlame_103 ?_
          refine k_iast (y := (bf i) + 1) (j := i) (ws' := (wSA k h a0 a1 a2 a3 a4 a5 a6 (nI n) farm amount mark place number paid (upd bf i ((bf i) + 1)))) E 7 0 rfl rfl rfl (by omega) (by decide) rfl rfl dX1_settleBlame_104 ?_
          refine k_iinc (q := 2) (v := x + (-1)) (lv' := [(4, .int (x + (-1))), (0, .ref h), (1, .int b), (5, .int (nI i))]) E rfl (by rw [show Int32.ofInt (-1) = (-1) from by decide]) (by decide) rfl dX1_settleBlame_105 ?_
          refine k_iinc (q := 3) (v := nI (i + 1)) (lv' := [(5, .int (nI (i + 1))), (4, .int (x + (-1))), (0, .ref h), (1, .int b)]) E rfl (nI_inc _) (by decide) rfl dX1_settleBlame_108 ?_
          refine k_goto E (tgt := 70) (by decide) dX1_settleBlame_111 ?_
          refine k_lv [2, 3, 1, 0] rfl ?_
          exact ih70 (i + 1) (upd bf i ((bf i) + 1)) (x + (-1)) (by omega) (by first | (rw [hb, wr_at]; exact wr_t (v := fun j => (bl1 mark place number amount blamed b sp (valB mark place number amount b n) n) j + 1) (by simp [pl, c91, ← hx, Int32.not_le.mp c81])) | (rw [hb]; exact wr_f (by simp [pl, c91]))) (by first | (simp [lf, c91, ← hx, Int32.not_le.mp c81]; done) | (simp [lf, c91, hx]; done))
  have L12 : ∀ (dn12 : Nat) (i : Nat) (bf : Nat → Int32) (x : Int32), i + dn12 = n → (bf = bl1 mark place number amount blamed b sp (valB mark place number amount b n) i) → (x = lft mark place number amount b sp (valB mark place number amount b n) i) → kJ p l e (kRmc 3 64 0 0) s m args below meth c (gW D (va_A (wSA k h a0 a1 a2 a3 a4 a5 a6 (nI n) farm amount mark place number paid blamed) s.heap.size) s.heap) 6 0 0 (MQ below (kQw none D (wSA k h a0 a1 a2 a3 a4 a5 a6 (nI n) farm amount mark place number paid blamed) (wSA k h a0 a1 a2 a3 a4 a5 a6 (nI n) farm amount mark place number paid (bl2 mark place number amount blamed b sp n)) s.heap.size) args s 0 0 (va_A (wSA k h a0 a1 a2 a3 a4 a5 a6 (nI n) farm amount mark place number paid blamed) s.heap.size)) (wSA k h a0 a1 a2 a3 a4 a5 a6 (nI n) farm amount mark place number paid bf) 12 [(0, .ref h), (1, .int b), (2, .int sp), (3, .int (valB mark place number amount b n)), (4, .int x), (5, .int (nI i))] [] := by
    intro dn12
    induction dn12 with
    | zero =>
      intro i bf x hd12 hb hx
      refine k_iload E 5 rfl dX1_settleBlame_12 ?_
      refine k_aload_n E 0 rfl rfl dX1_settleBlame_14 ?_
      refine k_get E inX1 0 rfl rfl 0 (by decide) q_59 rfl rfl dX1_settleBlame_15 ?_
      refine k_icmp_ge E (tgt := 67) (by decide) dX1_settleBlame_18 (fun c18 => ?_) (fun c18 => absurd ((not_congr (nI_leI (a := n) (b := i) (by omega) (by omega))).mp c18) (by omega))
      have c18 := (nI_leI (a := n) (b := i) (by omega) (by omega)).mp c18
      refine k_iconst E (v := 0) (by decide) dX1_settleBlame_67 ?_
      refine k_istore (lv' := [(5, .int 0), (0, .ref h), (1, .int b), (2, .int sp), (3, .int (valB mark place number amount b n)), (4, .int x)]) E (by decide) rfl dX1_settleBlame_68 ?_
      refine k_lv [1, 2, 5, 0] rfl ?_
      exact L70 (n - 0) 0 bf x (by omega) (by rw [wr_0, hb, show i = n by omega]) (by rw [hx, show i = n by omega]; rfl)
    | succ dn12 ih12 =>
      intro i bf x hd12 hb hx
      refine k_iload E 5 rfl dX1_settleBlame_12 ?_
      refine k_aload_n E 0 rfl rfl dX1_settleBlame_14 ?_
      refine k_get E inX1 0 rfl rfl 0 (by decide) q_59 rfl rfl dX1_settleBlame_15 ?_
      refine k_icmp_ge E (tgt := 67) (by decide) dX1_settleBlame_18 (fun c18 => absurd ((nI_leI (a := n) (b := i) (by omega) (by omega)).mp c18) (by omega)) (fun c18 => ?_)
      have c18 := (not_congr (nI_leI (a := n) (b := i) (by omega) (by omega))).mp c18
      refine k_aload_n E 0 rfl rfl dX1_settleBlame_21 ?_
      refine k_iload E 5 rfl dX1_settleBlame_22 ?_
      refine k_iload_n E 1 rfl rfl dX1_settleBlame_24 ?_
      refine k_callRV [.int (nI i), .int b] E (m_X1_isSpoiltIn l D k h a0 a1 a2 a3 a4 a5 a6 n farm amount mark place number paid bf i b (by first | assumption | omega)) cf_X1_isSpoiltIn q_474 [0, 1, 2, 3, 4, 5, 6, 7] rfl 0 rfl rfl rfl rfl ⟨by decide, by decide⟩ (Nat.le_of_ble_eq_true rfl) ⟨by decide, by decide⟩ dX1_settleBlame_25 ?_
      refine k_steq (st' := [.int (kB (cSp mark place number b i))]) rfl ?_
      refine k_if_eq E (tgt := 61) (by decide) dX1_settleBlame_28 (fun c28 => ?_) (fun c28 => ?_)
      · skip
        have c28 := kB_f c28
        refine k_iinc (q := 5) (v := nI (i + 1)) (lv' := [(5, .int (nI (i + 1))), (0, .ref h), (1, .int b), (2, .int sp), (3, .int (valB mark place number amount b n)), (4, .int x)]) E rfl (nI_inc _) (by decide) rfl dX1_settleBlame_61 ?_
        refine k_goto E (tgt := 12) (by decide) dX1_settleBlame_64 ?_
        refine k_lv [1, 2, 3, 4, 5, 0] rfl ?_
        exact ih12 (i + 1) bf x (by omega) (by rw [hb]; unfold bl1; first | exact wr_t (v := fun j => valB mark place number amount b n * amount j / sp) c28 | exact wr_f c28) (by rw [hx]; first | (simp [lft, sI, c28, upd, i32_sss]; done) | (simp [lft, sI, c28]; done))
      · skip
        have c28 := kB_t c28
        refine k_aload_n E 0 rfl rfl dX1_settleBlame_31 ?_
        refine k_get E inX1 0 rfl rfl 7 (by decide) q_72 rfl rfl dX1_settleBlame_32 ?_
        refine k_iload E 5 rfl dX1_settleBlame_35 ?_
        refine k_iload_n E 3 rfl rfl dX1_settleBlame_37 ?_
        refine k_aload_n E 0 rfl rfl dX1_settleBlame_38 ?_
        refine k_get E inX1 0 rfl rfl 2 (by decide) q_63 rfl rfl dX1_settleBlame_39 ?_
        refine k_iload E 5 rfl dX1_settleBlame_42 ?_
        refine k_iald E (j := i) 2 0 rfl rfl rfl (by omega) (by decide) dX1_settleBlame_44 ?_
        refine k_imul E dX1_settleBlame_45 ?_
        refine k_iload_n E 2 rfl rfl dX1_settleBlame_46 ?_
        refine k_idiv E hsp dX1_settleBlame_47 ?_
        refine k_iast (y := ((valB mark place number amount b n) * (amount i)) / sp) (j := i) (ws' := (wSA k h a0 a1 a2 a3 a4 a5 a6 (nI n) farm amount mark place number paid (upd bf i (((valB mark place number amount b n) * (amount i)) / sp)))) E 7 0 rfl rfl rfl (by omega) (by decide) rfl rfl dX1_settleBlame_48 ?_
        refine k_iload E 4 rfl dX1_settleBlame_49 ?_
        refine k_aload_n E 0 rfl rfl dX1_settleBlame_51 ?_
        refine k_get E inX1 0 rfl rfl 7 (by decide) q_72 rfl rfl dX1_settleBlame_52 ?_
        refine k_iload E 5 rfl dX1_settleBlame_55 ?_
        refine k_iald E (j := i) 7 0 rfl rfl rfl (by omega) (by decide) dX1_settleBlame_57 ?_
        refine k_isub E dX1_settleBlame_58 ?_
        refine k_istore (lv' := [(4, .int (x - ((upd bf i (((valB mark place number amount b n) * (amount i)) / sp)) i))), (0, .ref h), (1, .int b), (2, .int sp), (3, .int (valB mark place number amount b n)), (5, .int (nI i))]) E (by decide) rfl dX1_settleBlame_59 ?_
        refine k_iinc (q := 5) (v := nI (i + 1)) (lv' := [(5, .int (nI (i + 1))), (4, .int (x - ((upd bf i (((valB mark place number amount b n) * (amount i)) / sp)) i))), (0, .ref h), (1, .int b), (2, .int sp), (3, .int (valB mark place number amount b n))]) E rfl (nI_inc _) (by decide) rfl dX1_settleBlame_61 ?_
        refine k_goto E (tgt := 12) (by decide) dX1_settleBlame_64 ?_
        refine k_lv [2, 3, 4, 5, 1, 0] rfl ?_
        exact ih12 (i + 1) (upd bf i (((valB mark place number amount b n) * (amount i)) / sp)) (x - ((upd bf i (((valB mark place number amount b n) * (amount i)) / sp)) i)) (by omega) (by rw [hb]; unfold bl1; first | exact wr_t (v := fun j => valB mark place number amount b n * amount j / sp) c28 | exact wr_f c28) (by rw [hx]; first | (simp [lft, sI, c28, upd, i32_sss]; done) | (simp [lft, sI, c28]; done))
  refine k_aload_n E 0 rfl rfl dX1_settleBlame_0 ?_
  refine k_iload_n E 1 rfl rfl dX1_settleBlame_1 ?_
  refine k_callRV [.int b] E (m_X1_valueOf l D k h a0 a1 a2 a3 a4 a5 a6 n farm amount mark place number paid blamed b (by first | assumption | omega)) cf_X1_valueOf q_482 [0, 1, 2, 3, 4, 5, 6, 7] rfl 0 rfl rfl rfl rfl ⟨by decide, by decide⟩ (Nat.le_of_ble_eq_true rfl) ⟨by decide, by decide⟩ dX1_settleBlame_2 ?_
  refine k_steq (st' := [.int (valB mark place number amount b n)]) rfl ?_
  refine k_istore_n (lv' := [(3, .int (valB mark place number amount b n)), (0, .ref h), (1, .int b), (2, .int sp)]) E rfl (by decide) rfl dX1_settleBlame_5 ?_
  refine k_iload_n E 0 rfl rfl dX1_settleBlame_6 ?_
  refine k_istore (lv' := [(4, .int (valB mark place number amount b n)), (3, .int (valB mark place number amount b n)), (0, .ref h), (1, .int b), (2, .int sp)]) E (by decide) rfl dX1_settleBlame_7 ?_
  refine k_iconst E (v := 0) (by decide) dX1_settleBlame_9 ?_
  refine k_istore (lv' := [(5, .int 0), (4, .int (valB mark place number amount b n)), (3, .int (valB mark place number amount b n)), (0, .ref h), (1, .int b), (2, .int sp)]) E (by decide) rfl dX1_settleBlame_10 ?_
  refine k_lv [3, 4, 5, 2, 1, 0] rfl ?_
  exact L12 (n - 0) 0 blamed (valB mark place number amount b n) (by omega) (wr_0 _ _ _).symm (by simp [lft, sI])
set_option maxRecDepth 100000 in
set_option maxHeartbeats 4000000 in
theorem m_X1_settle (l : Launch) (D : va_G) (k : Nat → ClassId) (h : Nat) (a0 : Nat) (a1 : Nat) (a2 : Nat) (a3 : Nat) (a4 : Nat) (a5 : Nat) (a6 : Nat) (n : Nat) (farm : Nat → Int32) (amount : Nat → Int32) (mark : Nat → Int32) (place : Nat → Int32) (number : Nat → Int32) (paid : Nat → Int32) (blamed : Nat → Int32) (b : Int32) (hn : n ≤ 100) : mW l yX1_settle cX1_settle 3 none 4 89 0 0 D (kTy k) [.ref h, .int b] (wSA k h a0 a1 a2 a3 a4 a5 a6 (nI n) farm amount mark place number paid blamed) none (wSA k h a0 a1 a2 a3 a4 a5 a6 (nI n) farm amount mark place number (stP mark place number amount paid b n) (stB mark place number amount blamed b n)) := by
  refine mW.of (lv' := [(0, .ref h), (1, .int b)]) (by decide) (Nat.le_of_ble_eq_true rfl) rfl ?_
  intro p e s m args below meth c E hr hlk hm hA
  refine k_aload_n E 0 rfl rfl dX1_settle_0 ?_
  refine k_iload_n E 1 rfl rfl dX1_settle_1 ?_
  refine k_callRV [.int b] E (m_X1_isGraded l D k h a0 a1 a2 a3 a4 a5 a6 n farm amount mark place number paid blamed b (by first | assumption | omega)) cf_X1_isGraded q_466 [0, 1, 2, 3, 4, 5, 6, 7] rfl 0 rfl rfl rfl rfl ⟨by decide, by decide⟩ (Nat.le_of_ble_eq_true rfl) ⟨by decide, by decide⟩ dX1_settle_2 ?_
  refine k_steq (st' := [.int (kB (grB mark place number b n))]) rfl ?_
  refine k_if_ne E (tgt := 9) (by decide) dX1_settle_5 (fun c5 => ?_) (fun c5 => ?_)
  · skip
    have c5 := kB_t c5
    refine k_aload_n E 0 rfl rfl dX1_settle_9 ?_
    refine k_iload_n E 1 rfl rfl dX1_settle_10 ?_
    refine k_callRV [.int b] E (m_X1_spoiltLitres l D k h a0 a1 a2 a3 a4 a5 a6 n farm amount mark place number paid blamed b (by first | assumption | omega)) cf_X1_spoiltLitres q_470 [0, 1, 2, 3, 4, 5, 6, 7] rfl 0 rfl rfl rfl rfl ⟨by decide, by decide⟩ (Nat.le_of_ble_eq_true rfl) ⟨by decide, by decide⟩ dX1_settle_11 ?_
    refine k_steq (st' := [.int (spl mark place number amount b n)]) rfl ?_
    refine k_istore_n (lv' := [(2, .int (spl mark place number amount b n)), (0, .ref h), (1, .int b)]) E rfl (by decide) rfl dX1_settle_14 ?_
    refine k_iload_n E 0 rfl rfl dX1_settle_15 ?_
    refine k_if_le E (tgt := 28) (by decide) dX1_settle_16 (fun c16 => ?_) (fun c16 => ?_)
    · skip
      refine k_aload_n E 1 rfl rfl dX1_settle_28 ?_
      refine k_iload_n E 2 rfl rfl dX1_settle_29 ?_
      refine k_callWV [.int b] E hA (m_X1_settlePay l D k h a0 a1 a2 a3 a4 a5 a6 n farm amount mark place number paid blamed b (by first | assumption | omega)) cf_X1_settlePay q_493 [] [] (ws' := (wSA k h a0 a1 a2 a3 a4 a5 a6 (nI n) farm amount mark place number (wr (cIn place number 98 b) (fun zi => amount zi * cents (mark zi)) paid n) blamed)) rfl rfl 0 rfl rfl rfl rfl ⟨by decide, by decide⟩ (Nat.le_of_ble_eq_true rfl) ⟨by decide, by decide⟩ dX1_settle_30 ?_
      refine k_steq (st' := []) rfl ?_
      exact kw_vret E hr hlk rfl (by first | (simp [stP, stB, c5, Int32.not_lt.mpr c16]; done) | (simp [stP, stB, c5, Int32.not_le.mp c16]; done)) (by decide) (by decide) dX1_settle_33
    · skip
      refine k_aload_n E 1 rfl rfl dX1_settle_19 ?_
      refine k_iload_n E 2 rfl rfl dX1_settle_20 ?_
      refine k_iload_n E 0 rfl rfl dX1_settle_21 ?_
      refine k_callWV [.int b, .int (spl mark place number amount b n)] E hA (m_X1_settleBlame l D k h a0 a1 a2 a3 a4 a5 a6 n farm amount mark place number paid blamed b (spl mark place number amount b n) (by first | assumption | omega) (fun h => c16 (by rw [h]; decide))) cf_X1_settleBlame q_478 [] [] (ws' := (wSA k h a0 a1 a2 a3 a4 a5 a6 (nI n) farm amount mark place number paid (bl2 mark place number amount blamed b (spl mark place number amount b n) n))) rfl rfl 0 rfl rfl rfl rfl ⟨by decide, by decide⟩ (Nat.le_of_ble_eq_true rfl) ⟨by decide, by decide⟩ dX1_settle_22 ?_
      refine k_steq (st' := []) rfl ?_
      refine k_goto E (tgt := 33) (by decide) dX1_settle_25 ?_
      exact kw_vret E hr hlk rfl (by first | (simp [stP, stB, c5, Int32.not_lt.mpr c16]; done) | (simp [stP, stB, c5, Int32.not_le.mp c16]; done)) (by decide) (by decide) dX1_settle_33
  · skip
    have c5 := kB_f c5
    exact kw_vret E hr hlk rfl (by simp [stP, stB, c5]) (by decide) (by decide) dX1_settle_8
