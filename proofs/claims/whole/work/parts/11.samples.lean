set_option maxRecDepth 100000 in
set_option maxHeartbeats 4000000 in
theorem m_X1_isIn (l : Launch) (D : va_G) (k : Nat → ClassId) (h : Nat) (a0 : Nat) (a1 : Nat) (a2 : Nat) (a3 : Nat) (a4 : Nat) (a5 : Nat) (a6 : Nat) (n : Nat) (farm : Nat → Int32) (amount : Nat → Int32) (mark : Nat → Int32) (place : Nat → Int32) (number : Nat → Int32) (paid : Nat → Int32) (blamed : Nat → Int32) (j : Nat) (wh : Int32) (wi : Int32) (hj : j < 100) : mR l yX1_isIn cX1_isIn 4 (some .boolean) 0 0 D (kTy k) [.ref h, .int (nI j), .int wh, .int wi] (wSA k h a0 a1 a2 a3 a4 a5 a6 (nI n) farm amount mark place number paid blamed) (some (.int (kB (cIn place number wh wi j)))) := by
  refine mR.of (lv' := [(0, .ref h), (1, .int (nI j)), (2, .int wh), (3, .int wi)]) (by decide) (Nat.le_of_ble_eq_true rfl) rfl ?_
  intro p e s m args below meth c E hr hlk
  refine k_aload_n E 0 rfl rfl dX1_isIn_0 ?_
  refine k_get E inX1 0 rfl rfl 4 (by decide) q_67 rfl rfl dX1_isIn_1 ?_
  refine k_iload_n E 1 rfl rfl dX1_isIn_4 ?_
  refine k_cald E (j := j) 4 1 rfl rfl rfl (by omega) (by decide) dX1_isIn_5 ?_
  refine k_iload_n E 2 rfl rfl dX1_isIn_6 ?_
  refine k_icmp_ne E (tgt := 24) (by decide) dX1_isIn_7 (fun c7 => ?_) (fun c7 => ?_)
  · skip
    refine k_iconst E (v := 0) (by decide) dX1_isIn_24 ?_
    exact kr_zret E hr hlk rfl (by simp [kB, cIn, *]) dX1_isIn_25
  · skip
    refine k_aload_n E 0 rfl rfl dX1_isIn_10 ?_
    refine k_get E inX1 0 rfl rfl 5 (by decide) q_69 rfl rfl dX1_isIn_11 ?_
    refine k_iload_n E 1 rfl rfl dX1_isIn_14 ?_
    refine k_iald E (j := j) 5 0 rfl rfl rfl (by omega) (by decide) dX1_isIn_15 ?_
    refine k_iload_n E 3 rfl rfl dX1_isIn_16 ?_
    refine k_icmp_ne E (tgt := 24) (by decide) dX1_isIn_17 (fun c17 => ?_) (fun c17 => ?_)
    · skip
      refine k_iconst E (v := 0) (by decide) dX1_isIn_24 ?_
      exact kr_zret E hr hlk rfl (by simp [kB, cIn, *]) dX1_isIn_25
    · skip
      refine k_iconst E (v := 1) (by decide) dX1_isIn_20 ?_
      refine k_goto E (tgt := 25) (by decide) dX1_isIn_21 ?_
      exact kr_zret E hr hlk rfl (by simp [kB, cIn, *]) dX1_isIn_25
set_option maxRecDepth 100000 in
set_option maxHeartbeats 4000000 in
theorem m_X1_isSpoiltIn (l : Launch) (D : va_G) (k : Nat → ClassId) (h : Nat) (a0 : Nat) (a1 : Nat) (a2 : Nat) (a3 : Nat) (a4 : Nat) (a5 : Nat) (a6 : Nat) (n : Nat) (farm : Nat → Int32) (amount : Nat → Int32) (mark : Nat → Int32) (place : Nat → Int32) (number : Nat → Int32) (paid : Nat → Int32) (blamed : Nat → Int32) (j : Nat) (b : Int32) (hj : j < 100) : mR l yX1_isSpoiltIn cX1_isSpoiltIn 3 (some .boolean) 1 23 D (kTy k) [.ref h, .int (nI j), .int b] (wSA k h a0 a1 a2 a3 a4 a5 a6 (nI n) farm amount mark place number paid blamed) (some (.int (kB (cSp mark place number b j)))) := by
  refine mR.of (lv' := [(0, .ref h), (1, .int (nI j)), (2, .int b)]) (by decide) (Nat.le_of_ble_eq_true rfl) rfl ?_
  intro p e s m args below meth c E hr hlk
  refine k_aload_n E 0 rfl rfl dX1_isSpoiltIn_0 ?_
  refine k_get E inX1 0 rfl rfl 3 (by decide) q_65 rfl rfl dX1_isSpoiltIn_1 ?_
  refine k_iload_n E 1 rfl rfl dX1_isSpoiltIn_4 ?_
  refine k_cald E (j := j) 3 1 rfl rfl rfl (by omega) (by decide) dX1_isSpoiltIn_5 ?_
  refine k_bipush E (v := 120) (by decide) dX1_isSpoiltIn_6 ?_
  refine k_icmp_ne E (tgt := 26) (by decide) dX1_isSpoiltIn_8 (fun c8 => ?_) (fun c8 => ?_)
  · skip
    refine k_iconst E (v := 0) (by decide) dX1_isSpoiltIn_26 ?_
    exact kr_zret E hr hlk rfl (by simp [kB, cSp, *]) dX1_isSpoiltIn_27
  · skip
    refine k_aload_n E 0 rfl rfl dX1_isSpoiltIn_11 ?_
    refine k_iload_n E 1 rfl rfl dX1_isSpoiltIn_12 ?_
    refine k_bipush E (v := 98) (by decide) dX1_isSpoiltIn_13 ?_
    refine k_iload_n E 2 rfl rfl dX1_isSpoiltIn_15 ?_
    refine k_callRV [.int (nI j), .int 98, .int b] E (m_X1_isIn l D k h a0 a1 a2 a3 a4 a5 a6 n farm amount mark place number paid blamed j 98 b (by first | assumption | omega)) cf_X1_isIn q_132 [0, 1, 2, 3, 4, 5, 6, 7] rfl 0 rfl rfl rfl rfl ⟨by decide, by decide⟩ (by decide) ⟨by decide, by decide⟩ dX1_isSpoiltIn_16 ?_
    refine k_if_eq E (tgt := 26) (by decide) dX1_isSpoiltIn_19 (fun c19 => ?_) (fun c19 => ?_)
    · skip
      have c19 := kB_f c19
      refine k_iconst E (v := 0) (by decide) dX1_isSpoiltIn_26 ?_
      exact kr_zret E hr hlk rfl (by simp [kB, cSp, *]) dX1_isSpoiltIn_27
    · skip
      have c19 := kB_t c19
      refine k_iconst E (v := 1) (by decide) dX1_isSpoiltIn_22 ?_
      refine k_goto E (tgt := 27) (by decide) dX1_isSpoiltIn_23 ?_
      exact kr_zret E hr hlk rfl (by simp [kB, cSp, *]) dX1_isSpoiltIn_27
set_option maxRecDepth 100000 in
set_option maxHeartbeats 4000000 in
theorem m_X1_countIn (l : Launch) (D : va_G) (k : Nat → ClassId) (h : Nat) (a0 : Nat) (a1 : Nat) (a2 : Nat) (a3 : Nat) (a4 : Nat) (a5 : Nat) (a6 : Nat) (n : Nat) (farm : Nat → Int32) (amount : Nat → Int32) (mark : Nat → Int32) (place : Nat → Int32) (number : Nat → Int32) (paid : Nat → Int32) (blamed : Nat → Int32) (wh : Int32) (wi : Int32) (hn : n ≤ 100) : mR l yX1_countIn cX1_countIn 5 (some .int) 1 23 D (kTy k) [.ref h, .int wh, .int wi] (wSA k h a0 a1 a2 a3 a4 a5 a6 (nI n) farm amount mark place number paid blamed) (some (.int (sI (cIn place number wh wi) (fun _ => 1) n))) := by
  refine mR.of (lv' := [(0, .ref h), (1, .int wh), (2, .int wi)]) (by decide) (Nat.le_of_ble_eq_true rfl) rfl ?_
  intro p e s m args below meth c E hr hlk
  have L5 : ∀ (d : Nat) (i : Nat) (x : Int32), i + d = n → (x = sI (cIn place number wh wi) (fun _ => 1) i) → kJ p l e (kRm 1 23) s m args below meth c (gR D s.heap) 5 0 0 (MQ below (kQr (some (.int (sI (cIn place number wh wi) (fun _ => 1) n)))) args s 0 0 (fun _ => False)) (wSA k h a0 a1 a2 a3 a4 a5 a6 (nI n) farm amount mark place number paid blamed) 5 [(0, .ref h), (1, .int wh), (2, .int wi), (3, .int x), (4, .int (nI i))] [] := by
    intro d
    induction d with
    | zero =>
      intro i x hd hx
      refine k_iload E 4 rfl dX1_countIn_5 ?_
      refine k_aload_n E 0 rfl rfl dX1_countIn_7 ?_
      refine k_get E inX1 0 rfl rfl 0 (by decide) q_59 rfl rfl dX1_countIn_8 ?_
      refine k_icmp_ge E (tgt := 34) (by decide) dX1_countIn_11 (fun c11 => ?_) (fun c11 => absurd ((not_congr (nI_leI (a := n) (b := i) (by omega) (by omega))).mp c11) (by omega))
      have c11 := (nI_leI (a := n) (b := i) (by omega) (by omega)).mp c11
      refine k_iload_n E 3 rfl rfl dX1_countIn_34 ?_
      exact kr_iret E hr hlk (by rw [hx, show i = n by omega]) dX1_countIn_35
    | succ d ih =>
      intro i x hd hx
      refine k_iload E 4 rfl dX1_countIn_5 ?_
      refine k_aload_n E 0 rfl rfl dX1_countIn_7 ?_
      refine k_get E inX1 0 rfl rfl 0 (by decide) q_59 rfl rfl dX1_countIn_8 ?_
      refine k_icmp_ge E (tgt := 34) (by decide) dX1_countIn_11 (fun c11 => absurd ((nI_leI (a := n) (b := i) (by omega) (by omega)).mp c11) (by omega)) (fun c11 => ?_)
      have c11 := (not_congr (nI_leI (a := n) (b := i) (by omega) (by omega))).mp c11
      refine k_aload_n E 0 rfl rfl dX1_countIn_14 ?_
      refine k_iload E 4 rfl dX1_countIn_15 ?_
      refine k_iload_n E 1 rfl rfl dX1_countIn_17 ?_
      refine k_iload_n E 2 rfl rfl dX1_countIn_18 ?_
      refine k_callRV [.int (nI i), .int wh, .int wi] E (m_X1_isIn l D k h a0 a1 a2 a3 a4 a5 a6 n farm amount mark place number paid blamed i wh wi (by first | assumption | omega)) cf_X1_isIn q_132 [0, 1, 2, 3, 4, 5, 6, 7] rfl 0 rfl rfl rfl rfl ⟨by decide, by decide⟩ (by decide) ⟨by decide, by decide⟩ dX1_countIn_19 ?_
      refine k_if_eq E (tgt := 28) (by decide) dX1_countIn_22 (fun c22 => ?_) (fun c22 => ?_)
      · skip
        have c22 := kB_f c22
        refine k_iinc (q := 4) (v := nI (i + 1)) (lv' := [(4, .int (nI (i + 1))), (0, .ref h), (1, .int wh), (2, .int wi), (3, .int x)]) E rfl (nI_inc _) (by decide) rfl dX1_countIn_28 ?_
        refine k_goto E (tgt := 5) (by decide) dX1_countIn_31 ?_
        refine k_lv [1, 2, 3, 4, 0] rfl ?_
        exact ih (i + 1) x (by omega) (by simp [sI, *])
      · skip
        have c22 := kB_t c22
        refine k_iinc (q := 3) (v := x + 1) (lv' := [(3, .int (x + 1)), (0, .ref h), (1, .int wh), (2, .int wi), (4, .int (nI i))]) E rfl rfl (by decide) rfl dX1_countIn_25 ?_
        refine k_iinc (q := 4) (v := nI (i + 1)) (lv' := [(4, .int (nI (i + 1))), (3, .int (x + 1)), (0, .ref h), (1, .int wh), (2, .int wi)]) E rfl (nI_inc _) (by decide) rfl dX1_countIn_28 ?_
        refine k_goto E (tgt := 5) (by decide) dX1_countIn_31 ?_
        refine k_lv [2, 3, 4, 1, 0] rfl ?_
        exact ih (i + 1) (x + 1) (by omega) (by simp [sI, *])
  refine k_iconst E (v := 0) (by decide) dX1_countIn_0 ?_
  refine k_istore_n (lv' := [(3, .int 0), (0, .ref h), (1, .int wh), (2, .int wi)]) E rfl (by decide) rfl dX1_countIn_1 ?_
  refine k_iconst E (v := 0) (by decide) dX1_countIn_2 ?_
  refine k_istore (lv' := [(4, .int 0), (3, .int 0), (0, .ref h), (1, .int wh), (2, .int wi)]) E (by decide) rfl dX1_countIn_3 ?_
  refine k_lv [2, 3, 4, 1, 0] rfl ?_
  exact L5 (n - 0) 0 0 (by omega) rfl
set_option maxRecDepth 100000 in
set_option maxHeartbeats 4000000 in
theorem m_X1_litresIn (l : Launch) (D : va_G) (k : Nat → ClassId) (h : Nat) (a0 : Nat) (a1 : Nat) (a2 : Nat) (a3 : Nat) (a4 : Nat) (a5 : Nat) (a6 : Nat) (n : Nat) (farm : Nat → Int32) (amount : Nat → Int32) (mark : Nat → Int32) (place : Nat → Int32) (number : Nat → Int32) (paid : Nat → Int32) (blamed : Nat → Int32) (wh : Int32) (wi : Int32) (hn : n ≤ 100) : mR l yX1_litresIn cX1_litresIn 5 (some .int) 1 23 D (kTy k) [.ref h, .int wh, .int wi] (wSA k h a0 a1 a2 a3 a4 a5 a6 (nI n) farm amount mark place number paid blamed) (some (.int (sI (cIn place number wh wi) amount n))) := by
  refine mR.of (lv' := [(0, .ref h), (1, .int wh), (2, .int wi)]) (by decide) (Nat.le_of_ble_eq_true rfl) rfl ?_
  intro p e s m args below meth c E hr hlk
  have L5 : ∀ (d : Nat) (i : Nat) (x : Int32), i + d = n → (x = sI (cIn place number wh wi) amount i) → kJ p l e (kRm 1 23) s m args below meth c (gR D s.heap) 5 0 0 (MQ below (kQr (some (.int (sI (cIn place number wh wi) amount n)))) args s 0 0 (fun _ => False)) (wSA k h a0 a1 a2 a3 a4 a5 a6 (nI n) farm amount mark place number paid blamed) 5 [(0, .ref h), (1, .int wh), (2, .int wi), (3, .int x), (4, .int (nI i))] [] := by
    intro d
    induction d with
    | zero =>
      intro i x hd hx
      refine k_iload E 4 rfl dX1_litresIn_5 ?_
      refine k_aload_n E 0 rfl rfl dX1_litresIn_7 ?_
      refine k_get E inX1 0 rfl rfl 0 (by decide) q_59 rfl rfl dX1_litresIn_8 ?_
      refine k_icmp_ge E (tgt := 41) (by decide) dX1_litresIn_11 (fun c11 => ?_) (fun c11 => absurd ((not_congr (nI_leI (a := n) (b := i) (by omega) (by omega))).mp c11) (by omega))
      have c11 := (nI_leI (a := n) (b := i) (by omega) (by omega)).mp c11
      refine k_iload_n E 3 rfl rfl dX1_litresIn_41 ?_
      exact kr_iret E hr hlk (by rw [hx, show i = n by omega]) dX1_litresIn_42
    | succ d ih =>
      intro i x hd hx
      refine k_iload E 4 rfl dX1_litresIn_5 ?_
      refine k_aload_n E 0 rfl rfl dX1_litresIn_7 ?_
      refine k_get E inX1 0 rfl rfl 0 (by decide) q_59 rfl rfl dX1_litresIn_8 ?_
      refine k_icmp_ge E (tgt := 41) (by decide) dX1_litresIn_11 (fun c11 => absurd ((nI_leI (a := n) (b := i) (by omega) (by omega)).mp c11) (by omega)) (fun c11 => ?_)
      have c11 := (not_congr (nI_leI (a := n) (b := i) (by omega) (by omega))).mp c11
      refine k_aload_n E 0 rfl rfl dX1_litresIn_14 ?_
      refine k_iload E 4 rfl dX1_litresIn_15 ?_
      refine k_iload_n E 1 rfl rfl dX1_litresIn_17 ?_
      refine k_iload_n E 2 rfl rfl dX1_litresIn_18 ?_
      refine k_callRV [.int (nI i), .int wh, .int wi] E (m_X1_isIn l D k h a0 a1 a2 a3 a4 a5 a6 n farm amount mark place number paid blamed i wh wi (by first | assumption | omega)) cf_X1_isIn q_132 [0, 1, 2, 3, 4, 5, 6, 7] rfl 0 rfl rfl rfl rfl ⟨by decide, by decide⟩ (by decide) ⟨by decide, by decide⟩ dX1_litresIn_19 ?_
      refine k_if_eq E (tgt := 35) (by decide) dX1_litresIn_22 (fun c22 => ?_) (fun c22 => ?_)
      · skip
        have c22 := kB_f c22
        refine k_iinc (q := 4) (v := nI (i + 1)) (lv' := [(4, .int (nI (i + 1))), (0, .ref h), (1, .int wh), (2, .int wi), (3, .int x)]) E rfl (nI_inc _) (by decide) rfl dX1_litresIn_35 ?_
        refine k_goto E (tgt := 5) (by decide) dX1_litresIn_38 ?_
        refine k_lv [1, 2, 3, 4, 0] rfl ?_
        exact ih (i + 1) x (by omega) (by simp [sI, *])
      · skip
        have c22 := kB_t c22
        refine k_iload_n E 3 rfl rfl dX1_litresIn_25 ?_
        refine k_aload_n E 0 rfl rfl dX1_litresIn_26 ?_
        refine k_get E inX1 0 rfl rfl 2 (by decide) q_63 rfl rfl dX1_litresIn_27 ?_
        refine k_iload E 4 rfl dX1_litresIn_30 ?_
        refine k_iald E (j := i) 2 0 rfl rfl rfl (by omega) (by decide) dX1_litresIn_32 ?_
        refine k_iadd E dX1_litresIn_33 ?_
        refine k_istore_n (lv' := [(3, .int (x + (amount i))), (0, .ref h), (1, .int wh), (2, .int wi), (4, .int (nI i))]) E rfl (by decide) rfl dX1_litresIn_34 ?_
        refine k_iinc (q := 4) (v := nI (i + 1)) (lv' := [(4, .int (nI (i + 1))), (3, .int (x + (amount i))), (0, .ref h), (1, .int wh), (2, .int wi)]) E rfl (nI_inc _) (by decide) rfl dX1_litresIn_35 ?_
        refine k_goto E (tgt := 5) (by decide) dX1_litresIn_38 ?_
        refine k_lv [2, 3, 4, 1, 0] rfl ?_
        exact ih (i + 1) (x + (amount i)) (by omega) (by simp [sI, *])
  refine k_iconst E (v := 0) (by decide) dX1_litresIn_0 ?_
  refine k_istore_n (lv' := [(3, .int 0), (0, .ref h), (1, .int wh), (2, .int wi)]) E rfl (by decide) rfl dX1_litresIn_1 ?_
  refine k_iconst E (v := 0) (by decide) dX1_litresIn_2 ?_
  refine k_istore (lv' := [(4, .int 0), (3, .int 0), (0, .ref h), (1, .int wh), (2, .int wi)]) E (by decide) rfl dX1_litresIn_3 ?_
  refine k_lv [2, 3, 4, 1, 0] rfl ?_
  exact L5 (n - 0) 0 0 (by omega) rfl
set_option maxRecDepth 100000 in
set_option maxHeartbeats 4000000 in
theorem m_X1_allLitres (l : Launch) (D : va_G) (k : Nat → ClassId) (h : Nat) (a0 : Nat) (a1 : Nat) (a2 : Nat) (a3 : Nat) (a4 : Nat) (a5 : Nat) (a6 : Nat) (n : Nat) (farm : Nat → Int32) (amount : Nat → Int32) (mark : Nat → Int32) (place : Nat → Int32) (number : Nat → Int32) (paid : Nat → Int32) (blamed : Nat → Int32) (hn : n ≤ 100) : mR l yX1_allLitres cX1_allLitres 3 (some .int) 0 0 D (kTy k) [.ref h] (wSA k h a0 a1 a2 a3 a4 a5 a6 (nI n) farm amount mark place number paid blamed) (some (.int (sI (fun _ => true) amount n))) := by
  refine mR.of (lv' := [(0, .ref h)]) (by decide) (Nat.le_of_ble_eq_true rfl) rfl ?_
  intro p e s m args below meth c E hr hlk
  have L4 : ∀ (d : Nat) (i : Nat) (x : Int32), i + d = n → (x = sI (fun _ => true) amount i) → kJ p l e (kRm 0 0) s m args below meth c (gR D s.heap) 3 0 0 (MQ below (kQr (some (.int (sI (fun _ => true) amount n)))) args s 0 0 (fun _ => False)) (wSA k h a0 a1 a2 a3 a4 a5 a6 (nI n) farm amount mark place number paid blamed) 4 [(0, .ref h), (1, .int x), (2, .int (nI i))] [] := by
    intro d
    induction d with
    | zero =>
      intro i x hd hx
      refine k_iload_n E 2 rfl rfl dX1_allLitres_4 ?_
      refine k_aload_n E 0 rfl rfl dX1_allLitres_5 ?_
      refine k_get E inX1 0 rfl rfl 0 (by decide) q_59 rfl rfl dX1_allLitres_6 ?_
      refine k_icmp_ge E (tgt := 27) (by decide) dX1_allLitres_9 (fun c9 => ?_) (fun c9 => absurd ((not_congr (nI_leI (a := n) (b := i) (by omega) (by omega))).mp c9) (by omega))
      have c9 := (nI_leI (a := n) (b := i) (by omega) (by omega)).mp c9
      refine k_iload_n E 1 rfl rfl dX1_allLitres_27 ?_
      exact kr_iret E hr hlk (by rw [hx, show i = n by omega]) dX1_allLitres_28
    | succ d ih =>
      intro i x hd hx
      refine k_iload_n E 2 rfl rfl dX1_allLitres_4 ?_
      refine k_aload_n E 0 rfl rfl dX1_allLitres_5 ?_
      refine k_get E inX1 0 rfl rfl 0 (by decide) q_59 rfl rfl dX1_allLitres_6 ?_
      refine k_icmp_ge E (tgt := 27) (by decide) dX1_allLitres_9 (fun c9 => absurd ((nI_leI (a := n) (b := i) (by omega) (by omega)).mp c9) (by omega)) (fun c9 => ?_)
      have c9 := (not_congr (nI_leI (a := n) (b := i) (by omega) (by omega))).mp c9
      refine k_iload_n E 1 rfl rfl dX1_allLitres_12 ?_
      refine k_aload_n E 0 rfl rfl dX1_allLitres_13 ?_
      refine k_get E inX1 0 rfl rfl 2 (by decide) q_63 rfl rfl dX1_allLitres_14 ?_
      refine k_iload_n E 2 rfl rfl dX1_allLitres_17 ?_
      refine k_iald E (j := i) 2 0 rfl rfl rfl (by omega) (by decide) dX1_allLitres_18 ?_
      refine k_iadd E dX1_allLitres_19 ?_
      refine k_istore_n (lv' := [(1, .int (x + (amount i))), (0, .ref h), (2, .int (nI i))]) E rfl (by decide) rfl dX1_allLitres_20 ?_
      refine k_iinc (q := 2) (v := nI (i + 1)) (lv' := [(2, .int (nI (i + 1))), (1, .int (x + (amount i))), (0, .ref h)]) E rfl (nI_inc _) (by decide) rfl dX1_allLitres_21 ?_
      refine k_goto E (tgt := 4) (by decide) dX1_allLitres_24 ?_
      refine k_lv [2, 1, 0] rfl ?_
      exact ih (i + 1) (x + (amount i)) (by omega) (by simp [sI, *])
  refine k_iconst E (v := 0) (by decide) dX1_allLitres_0 ?_
  refine k_istore_n (lv' := [(1, .int 0), (0, .ref h)]) E rfl (by decide) rfl dX1_allLitres_1 ?_
  refine k_iconst E (v := 0) (by decide) dX1_allLitres_2 ?_
  refine k_istore_n (lv' := [(2, .int 0), (1, .int 0), (0, .ref h)]) E rfl (by decide) rfl dX1_allLitres_3 ?_
  refine k_lv [2, 1, 0] rfl ?_
  exact L4 (n - 0) 0 0 (by omega) rfl
set_option maxRecDepth 100000 in
set_option maxHeartbeats 4000000 in
theorem m_X1_ungraded (l : Launch) (D : va_G) (k : Nat → ClassId) (h : Nat) (a0 : Nat) (a1 : Nat) (a2 : Nat) (a3 : Nat) (a4 : Nat) (a5 : Nat) (a6 : Nat) (n : Nat) (farm : Nat → Int32) (amount : Nat → Int32) (mark : Nat → Int32) (place : Nat → Int32) (number : Nat → Int32) (paid : Nat → Int32) (blamed : Nat → Int32) (hn : n ≤ 100) : mR l yX1_ungraded cX1_ungraded 3 (some .int) 0 0 D (kTy k) [.ref h] (wSA k h a0 a1 a2 a3 a4 a5 a6 (nI n) farm amount mark place number paid blamed) (some (.int (sI (fun j => decide (mark j = 45)) (fun _ => 1) n))) := by
  refine mR.of (lv' := [(0, .ref h)]) (by decide) (Nat.le_of_ble_eq_true rfl) rfl ?_
  intro p e s m args below meth c E hr hlk
  have L4 : ∀ (d : Nat) (i : Nat) (x : Int32), i + d = n → (x = sI (fun j => decide (mark j = 45)) (fun _ => 1) i) → kJ p l e (kRm 0 0) s m args below meth c (gR D s.heap) 3 0 0 (MQ below (kQr (some (.int (sI (fun j => decide (mark j = 45)) (fun _ => 1) n)))) args s 0 0 (fun _ => False)) (wSA k h a0 a1 a2 a3 a4 a5 a6 (nI n) farm amount mark place number paid blamed) 4 [(0, .ref h), (1, .int x), (2, .int (nI i))] [] := by
    intro d
    induction d with
    | zero =>
      intro i x hd hx
      refine k_iload_n E 2 rfl rfl dX1_ungraded_4 ?_
      refine k_aload_n E 0 rfl rfl dX1_ungraded_5 ?_
      refine k_get E inX1 0 rfl rfl 0 (by decide) q_59 rfl rfl dX1_ungraded_6 ?_
      refine k_icmp_ge E (tgt := 32) (by decide) dX1_ungraded_9 (fun c9 => ?_) (fun c9 => absurd ((not_congr (nI_leI (a := n) (b := i) (by omega) (by omega))).mp c9) (by omega))
      have c9 := (nI_leI (a := n) (b := i) (by omega) (by omega)).mp c9
      refine k_iload_n E 1 rfl rfl dX1_ungraded_32 ?_
      exact kr_iret E hr hlk (by rw [hx, show i = n by omega]) dX1_ungraded_33
    | succ d ih =>
      intro i x hd hx
      refine k_iload_n E 2 rfl rfl dX1_ungraded_4 ?_
      refine k_aload_n E 0 rfl rfl dX1_ungraded_5 ?_
      refine k_get E inX1 0 rfl rfl 0 (by decide) q_59 rfl rfl dX1_ungraded_6 ?_
      refine k_icmp_ge E (tgt := 32) (by decide) dX1_ungraded_9 (fun c9 => absurd ((nI_leI (a := n) (b := i) (by omega) (by omega)).mp c9) (by omega)) (fun c9 => ?_)
      have c9 := (not_congr (nI_leI (a := n) (b := i) (by omega) (by omega))).mp c9
      refine k_aload_n E 0 rfl rfl dX1_ungraded_12 ?_
      refine k_get E inX1 0 rfl rfl 3 (by decide) q_65 rfl rfl dX1_ungraded_13 ?_
      refine k_iload_n E 2 rfl rfl dX1_ungraded_16 ?_
      refine k_cald E (j := i) 3 1 rfl rfl rfl (by omega) (by decide) dX1_ungraded_17 ?_
      refine k_bipush E (v := 45) (by decide) dX1_ungraded_18 ?_
      refine k_icmp_ne E (tgt := 26) (by decide) dX1_ungraded_20 (fun c20 => ?_) (fun c20 => ?_)
      · skip
        refine k_iinc (q := 2) (v := nI (i + 1)) (lv' := [(2, .int (nI (i + 1))), (0, .ref h), (1, .int x)]) E rfl (nI_inc _) (by decide) rfl dX1_ungraded_26 ?_
        refine k_goto E (tgt := 4) (by decide) dX1_ungraded_29 ?_
        refine k_lv [1, 2, 0] rfl ?_
        exact ih (i + 1) x (by omega) (by simp [sI, *])
      · skip
        refine k_iinc (q := 1) (v := x + 1) (lv' := [(1, .int (x + 1)), (0, .ref h), (2, .int (nI i))]) E rfl rfl (by decide) rfl dX1_ungraded_23 ?_
        refine k_iinc (q := 2) (v := nI (i + 1)) (lv' := [(2, .int (nI (i + 1))), (1, .int (x + 1)), (0, .ref h)]) E rfl (nI_inc _) (by decide) rfl dX1_ungraded_26 ?_
        refine k_goto E (tgt := 4) (by decide) dX1_ungraded_29 ?_
        refine k_lv [2, 1, 0] rfl ?_
        exact ih (i + 1) (x + 1) (by omega) (by simp [sI, *])
  refine k_iconst E (v := 0) (by decide) dX1_ungraded_0 ?_
  refine k_istore_n (lv' := [(1, .int 0), (0, .ref h)]) E rfl (by decide) rfl dX1_ungraded_1 ?_
  refine k_iconst E (v := 0) (by decide) dX1_ungraded_2 ?_
  refine k_istore_n (lv' := [(2, .int 0), (1, .int 0), (0, .ref h)]) E rfl (by decide) rfl dX1_ungraded_3 ?_
  refine k_lv [2, 1, 0] rfl ?_
  exact L4 (n - 0) 0 0 (by omega) rfl
