set_option maxRecDepth 100000 in
set_option maxHeartbeats 4000000 in
theorem m_X0_milkOfCow (l : Launch) (D : va_G) (k : Nat → ClassId) (b : Int32) (dz : Int32)  : mR l yX0_milkOfCow cX0_milkOfCow 2 (some .int) 1 30 D (kTy k) [.int b, .int dz] ([] : va_W) (some (.int (milkC b dz))) := by
  refine mR.of (lv' := [(0, .int b), (1, .int dz)]) (by decide) (Nat.le_of_ble_eq_true rfl) rfl ?_
  intro p e s m args below meth c E hr hlk
  refine k_iconst E (v := 5) (by decide) dX0_milkOfCow_0 ?_
  refine k_iload_n E 0 rfl rfl dX0_milkOfCow_1 ?_
  refine k_iconst E (v := 5) (by decide) dX0_milkOfCow_2 ?_
  refine k_iload_n E 1 rfl rfl dX0_milkOfCow_3 ?_
  refine k_bipush E (v := 10) (by decide) dX0_milkOfCow_4 ?_
  refine k_irem E (by decide) dX0_milkOfCow_6 ?_
  refine k_isub E dX0_milkOfCow_7 ?_
  refine k_mabs E q_314 q_315 q_13 q_316 (by decide) (Nat.le_of_ble_eq_true rfl) (by decide) (by decide) dX0_milkOfCow_8 ?_
  refine k_isub E dX0_milkOfCow_11 ?_
  refine k_mmax E q_317 q_318 q_13 q_319 (by decide) (Nat.le_of_ble_eq_true rfl) (by decide) (by decide) dX0_milkOfCow_12 ?_
  exact kr_iret E hr hlk rfl dX0_milkOfCow_15
set_option maxRecDepth 100000 in
set_option maxHeartbeats 4000000 in
theorem m_X0_milkOn (l : Launch) (D : va_G) (k : Nat → ClassId) (h : Nat) (a0 : Nat) (a1 : Nat) (a2 : Nat) (a3 : Nat) (rr : Nat → Nat) (nf : Nat) (rooms : Nat → Int32) (tanks : Nat → Int32) (cows : Nat → Int32) (bst : Nat → Nat → Int32) (f : Nat) (cz : Nat) (dz : Int32) (hf : f < 6) (hc : cows f = nI cz) (hc5 : cz ≤ 5) : mR l yX0_milkOn cX0_milkOn 5 (some .int) 2 51 D (kTy k) [.ref h, .int (nI f), .int dz] (wFA k h a0 a1 a2 a3 rr (nI nf) rooms tanks cows bst) (some (.int (milkF (bst f) dz cz))) := by
  refine mR.of (lv' := [(0, .ref h), (1, .int (nI f)), (2, .int dz)]) (by decide) (Nat.le_of_ble_eq_true rfl) rfl ?_
  intro p e s m args below meth c E hr hlk
  have L5 : ∀ (dn5 : Nat) (i : Nat) (x : Int32), i + dn5 = cz → (x = milkF (bst f) dz i) → kJ p l e (kRm 2 51) s m args below meth c (gR D s.heap) 5 0 0 (MQ below (kQr (some (.int (milkF (bst f) dz cz)))) args s 0 0 (fun _ => False)) (wFA k h a0 a1 a2 a3 rr (nI nf) rooms tanks cows bst) 5 [(0, .ref h), (1, .int (nI f)), (2, .int dz), (3, .int x), (4, .int (nI i))] [] := by
    intro dn5
    induction dn5 with
    | zero =>
      intro i x hd5 hx
      refine k_iload E 4 rfl dX0_milkOn_5 ?_
      refine k_aload_n E 0 rfl rfl dX0_milkOn_7 ?_
      refine k_get E inX0 0 rfl rfl 3 (by decide) q_38 rfl rfl dX0_milkOn_8 ?_
      refine k_iload_n E 1 rfl rfl dX0_milkOn_11 ?_
      refine k_iald E (j := f) 3 0 rfl rfl rfl (by omega) (by decide) dX0_milkOn_12 ?_
      refine k_steq (st' := [.int (nI cz), .int (nI i)]) (by rw [show cows f = nI cz from hc]) ?_
      refine k_icmp_ge E (tgt := 38) (by decide) dX0_milkOn_13 (fun c13 => ?_) (fun c13 => absurd ((not_congr (nI_leI (a := cz) (b := i) (by omega) (by omega))).mp c13) (by omega))
      have c13 := (nI_leI (a := cz) (b := i) (by omega) (by omega)).mp c13
      refine k_iload_n E 3 rfl rfl dX0_milkOn_38 ?_
      exact kr_iret E hr hlk (by rw [hx, show i = cz by omega]) dX0_milkOn_39
    | succ dn5 ih5 =>
      intro i x hd5 hx
      refine k_iload E 4 rfl dX0_milkOn_5 ?_
      refine k_aload_n E 0 rfl rfl dX0_milkOn_7 ?_
      refine k_get E inX0 0 rfl rfl 3 (by decide) q_38 rfl rfl dX0_milkOn_8 ?_
      refine k_iload_n E 1 rfl rfl dX0_milkOn_11 ?_
      refine k_iald E (j := f) 3 0 rfl rfl rfl (by omega) (by decide) dX0_milkOn_12 ?_
      refine k_steq (st' := [.int (nI cz), .int (nI i)]) (by rw [show cows f = nI cz from hc]) ?_
      refine k_icmp_ge E (tgt := 38) (by decide) dX0_milkOn_13 (fun c13 => absurd ((nI_leI (a := cz) (b := i) (by omega) (by omega)).mp c13) (by omega)) (fun c13 => ?_)
      have c13 := (not_congr (nI_leI (a := cz) (b := i) (by omega) (by omega))).mp c13
      refine k_iload_n E 3 rfl rfl dX0_milkOn_16 ?_
      refine k_aload_n E 0 rfl rfl dX0_milkOn_17 ?_
      refine k_get E inX0 0 rfl rfl 4 (by decide) q_40 rfl rfl dX0_milkOn_18 ?_
      refine k_iload_n E 1 rfl rfl dX0_milkOn_21 ?_
      refine k_aald E (j := f) (b := rr f) 4 5 rfl rfl rfl (by omega) (by decide) (if_pos (by omega)) dX0_milkOn_22 ?_
      refine k_iload E 4 rfl dX0_milkOn_23 ?_
      refine k_iald E (j := i) (5 + f) 0 (wFA_row (by omega)) rfl rfl (by omega) (by decide) dX0_milkOn_25 ?_
      refine k_iload_n E 2 rfl rfl dX0_milkOn_26 ?_
      refine k_callRS [.int (bst f i), .int dz] E (m_X0_milkOfCow l D k (bst f i) dz) cf_X0_milkOfCow q_311 [] rfl rfl rfl ⟨by decide, by decide⟩ (Nat.le_of_ble_eq_true rfl) ⟨by decide, by decide⟩ dX0_milkOn_27 ?_
      refine k_steq (st' := [.int (milkC (bst f i) dz), .int x]) rfl ?_
      refine k_iadd E dX0_milkOn_30 ?_
      refine k_istore_n (lv' := [(3, .int (x + (milkC (bst f i) dz))), (0, .ref h), (1, .int (nI f)), (2, .int dz), (4, .int (nI i))]) E rfl (by decide) rfl dX0_milkOn_31 ?_
      refine k_iinc (q := 4) (v := nI (i + 1)) (lv' := [(4, .int (nI (i + 1))), (3, .int (x + (milkC (bst f i) dz))), (0, .ref h), (1, .int (nI f)), (2, .int dz)]) E rfl (nI_inc _) (by decide) rfl dX0_milkOn_32 ?_
      refine k_goto E (tgt := 5) (by decide) dX0_milkOn_35 ?_
      refine k_lv [2, 3, 4, 1, 0] rfl ?_
      exact ih5 (i + 1) (x + (milkC (bst f i) dz)) (by omega) (by rw [hx]; simp [milkF, sI])
  refine k_iconst E (v := 0) (by decide) dX0_milkOn_0 ?_
  refine k_istore_n (lv' := [(3, .int 0), (0, .ref h), (1, .int (nI f)), (2, .int dz)]) E rfl (by decide) rfl dX0_milkOn_1 ?_
  refine k_iconst E (v := 0) (by decide) dX0_milkOn_2 ?_
  refine k_istore (lv' := [(4, .int 0), (3, .int 0), (0, .ref h), (1, .int (nI f)), (2, .int dz)]) E (by decide) rfl dX0_milkOn_3 ?_
  refine k_lv [2, 3, 4, 1, 0] rfl ?_
  exact L5 (cz - 0) 0 0 (by omega) rfl
set_option maxRecDepth 100000 in
set_option maxHeartbeats 4000000 in
theorem m_X0_add (l : Launch) (D : va_G) (k : Nat → ClassId) (h : Nat) (a0 : Nat) (a1 : Nat) (a2 : Nat) (a3 : Nat) (rr : Nat → Nat) (nf : Nat) (rooms : Nat → Int32) (tanks : Nat → Int32) (cows : Nat → Int32) (bst : Nat → Nat → Int32) (room : Int32) (hn : nf < 6) : mW l yX0_add cX0_add 2 (some .int) 0 0 0 0 D (kTy k) [.ref h, .int room] (wFA k h a0 a1 a2 a3 rr (nI nf) rooms tanks cows bst) (some (.int (nI nf))) (wFA k h a0 a1 a2 a3 rr (nI (nf + 1)) (upd rooms nf room) tanks cows bst) := by
  refine mW.of (lv' := [(0, .ref h), (1, .int room)]) (by decide) (Nat.le_of_ble_eq_true rfl) rfl ?_
  intro p e s m args below meth c E hr hlk hm hA
  refine k_aload_n E 0 rfl rfl dX0_add_0 ?_
  refine k_get E inX0 0 rfl rfl 1 (by decide) q_35 rfl rfl dX0_add_1 ?_
  refine k_aload_n E 0 rfl rfl dX0_add_4 ?_
  refine k_get E inX0 0 rfl rfl 0 (by decide) q_33 rfl rfl dX0_add_5 ?_
  refine k_iload_n E 1 rfl rfl dX0_add_8 ?_
  refine k_iast (y := room) (j := nf) (ws' := (wFA k h a0 a1 a2 a3 rr (nI nf) (upd rooms nf room) tanks cows bst)) E 1 0 rfl rfl rfl (by omega) (by decide) rfl rfl dX0_add_9 ?_
  refine k_aload_n E 0 rfl rfl dX0_add_10 ?_
  refine k_dup E rfl dX0_add_11 ?_
  refine k_get E inX0 0 rfl rfl 0 (by decide) q_33 rfl rfl dX0_add_12 ?_
  refine k_dup_x1 E rfl rfl dX0_add_15 ?_
  refine k_iconst E (v := 1) (by decide) dX0_add_16 ?_
  refine k_iadd E dX0_add_17 ?_
  refine k_steq (st' := [.int (nI (nf + 1)), .ref h, .int (nI nf)]) (by rw [show (nI nf) + 1 = nI (nf + 1) from nI_1 nf]) ?_
  refine k_put (ws' := (wFA k h a0 a1 a2 a3 rr (nI (nf + 1)) (upd rooms nf room) tanks cows bst)) E inX0 tyX0 tyX0_ok nmX0 0 rfl rfl 0 (by decide) q_33 rfl rfl rfl rfl (Nat.le_of_ble_eq_true rfl) rfl dX0_add_18 ?_
  exact kw_iret E hr hlk rfl rfl (by decide) (by decide) dX0_add_21
set_option maxRecDepth 100000 in
set_option maxHeartbeats 4000000 in
theorem m_X0_addCowTo (l : Launch) (D : va_G) (k : Nat → ClassId) (h : Nat) (a0 : Nat) (a1 : Nat) (a2 : Nat) (a3 : Nat) (rr : Nat → Nat) (nf : Nat) (rooms : Nat → Int32) (tanks : Nat → Int32) (cows : Nat → Int32) (bst : Nat → Nat → Int32) (f : Nat) (cz : Nat) (best : Int32) (hf : f < 6) (hc : cows f = nI cz) (hc5 : cz < 5) : mW l yX0_addCowTo cX0_addCowTo 3 (some .int) 0 0 0 0 D (kTy k) [.ref h, .int (nI f), .int best] (wFA k h a0 a1 a2 a3 rr (nI nf) rooms tanks cows bst) (some (.int (nI (cz + 1)))) (wFA k h a0 a1 a2 a3 rr (nI nf) rooms tanks (upd cows f (nI (cz + 1))) (fun i => if i = f then upd (bst f) cz best else bst i)) := by
  refine mW.of (lv' := [(0, .ref h), (1, .int (nI f)), (2, .int best)]) (by decide) (Nat.le_of_ble_eq_true rfl) rfl ?_
  intro p e s m args below meth c E hr hlk hm hA
  refine k_aload_n E 0 rfl rfl dX0_addCowTo_0 ?_
  refine k_get E inX0 0 rfl rfl 4 (by decide) q_40 rfl rfl dX0_addCowTo_1 ?_
  refine k_iload_n E 1 rfl rfl dX0_addCowTo_4 ?_
  refine k_aald E (j := f) (b := rr f) 4 5 rfl rfl rfl (by omega) (by decide) (if_pos (by omega)) dX0_addCowTo_5 ?_
  refine k_aload_n E 0 rfl rfl dX0_addCowTo_6 ?_
  refine k_get E inX0 0 rfl rfl 3 (by decide) q_38 rfl rfl dX0_addCowTo_7 ?_
  refine k_iload_n E 1 rfl rfl dX0_addCowTo_10 ?_
  refine k_iald E (j := f) 3 0 rfl rfl rfl (by omega) (by decide) dX0_addCowTo_11 ?_
  refine k_steq (st' := [.int (nI cz), .ref (rr f)]) (by rw [show cows f = nI cz from hc]) ?_
  refine k_iload_n E 2 rfl rfl dX0_addCowTo_12 ?_
  refine k_iast (j := cz) (ws' := (wFA k h a0 a1 a2 a3 rr (nI nf) rooms tanks cows (fun i => if i = f then upd (bst f) cz best else bst i))) (y := best) E (5 + f) 0 (wFA_row (by omega)) rfl rfl (by omega) (by decide) rfl (wFA_set (by omega) _) dX0_addCowTo_13 ?_
  refine k_aload_n E 0 rfl rfl dX0_addCowTo_14 ?_
  refine k_get E inX0 0 rfl rfl 3 (by decide) q_38 rfl rfl dX0_addCowTo_15 ?_
  refine k_iload_n E 1 rfl rfl dX0_addCowTo_18 ?_
  refine k_dup2 E rfl rfl dX0_addCowTo_19 ?_
  refine k_iald E (j := f) 3 0 rfl rfl rfl (by omega) (by decide) dX0_addCowTo_20 ?_
  refine k_steq (st' := [.int (nI cz), .int (nI f), .ref a2]) (by rw [show cows f = nI cz from hc]) ?_
  refine k_iconst E (v := 1) (by decide) dX0_addCowTo_21 ?_
  refine k_iadd E dX0_addCowTo_22 ?_
  refine k_steq (st' := [.int (nI (cz + 1)), .int (nI f), .ref a2]) (by rw [show (nI cz) + 1 = nI (cz + 1) from nI_1 cz]) ?_
  refine k_iast (y := nI (cz + 1)) (j := f) (ws' := (wFA k h a0 a1 a2 a3 rr (nI nf) rooms tanks (upd cows f (nI (cz + 1))) (fun i => if i = f then upd (bst f) cz best else bst i))) E 3 0 rfl rfl rfl (by omega) (by decide) rfl rfl dX0_addCowTo_23 ?_
  refine k_aload_n E 0 rfl rfl dX0_addCowTo_24 ?_
  refine k_get E inX0 0 rfl rfl 3 (by decide) q_38 rfl rfl dX0_addCowTo_25 ?_
  refine k_iload_n E 1 rfl rfl dX0_addCowTo_28 ?_
  refine k_iald E (j := f) 3 0 rfl rfl rfl (by omega) (by decide) dX0_addCowTo_29 ?_
  exact kw_iret E hr hlk (by simp [upd]) rfl (by decide) (by decide) dX0_addCowTo_30
set_option maxRecDepth 100000 in
set_option maxHeartbeats 4000000 in
theorem m_X0_draw (l : Launch) (D : va_G) (k : Nat → ClassId) (h : Nat) (a0 : Nat) (a1 : Nat) (a2 : Nat) (a3 : Nat) (rr : Nat → Nat) (nf : Nat) (rooms : Nat → Int32) (tanks : Nat → Int32) (cows : Nat → Int32) (bst : Nat → Nat → Int32) (f : Nat) (room : Int32) (hf : f < 6) : mW l yX0_draw cX0_draw 4 (some .int) 1 30 0 0 D (kTy k) [.ref h, .int (nI f), .int room] (wFA k h a0 a1 a2 a3 rr (nI nf) rooms tanks cows bst) (some (.int (minI (tanks f) room))) (wFA k h a0 a1 a2 a3 rr (nI nf) rooms (upd tanks f (tanks f - minI (tanks f) room)) cows bst) := by
  refine mW.of (lv' := [(0, .ref h), (1, .int (nI f)), (2, .int room)]) (by decide) (Nat.le_of_ble_eq_true rfl) rfl ?_
  intro p e s m args below meth c E hr hlk hm hA
  refine k_aload_n E 0 rfl rfl dX0_draw_0 ?_
  refine k_get E inX0 0 rfl rfl 2 (by decide) q_36 rfl rfl dX0_draw_1 ?_
  refine k_iload_n E 1 rfl rfl dX0_draw_4 ?_
  refine k_iald E (j := f) 2 0 rfl rfl rfl (by omega) (by decide) dX0_draw_5 ?_
  refine k_iload_n E 2 rfl rfl dX0_draw_6 ?_
  refine k_mmin E q_340 q_341 q_13 q_342 (by decide) (Nat.le_of_ble_eq_true rfl) (by decide) (by decide) dX0_draw_7 ?_
  refine k_istore_n (lv' := [(3, .int (if room < (tanks f) then room else (tanks f))), (0, .ref h), (1, .int (nI f)), (2, .int room)]) E rfl (by decide) rfl dX0_draw_10 ?_
  refine k_aload_n E 1 rfl rfl dX0_draw_11 ?_
  refine k_get E inX0 0 rfl rfl 2 (by decide) q_36 rfl rfl dX0_draw_12 ?_
  refine k_iload_n E 2 rfl rfl dX0_draw_15 ?_
  refine k_dup2 E rfl rfl dX0_draw_16 ?_
  refine k_iald E (j := f) 2 0 rfl rfl rfl (by omega) (by decide) dX0_draw_17 ?_
  refine k_iload_n E 0 rfl rfl dX0_draw_18 ?_
  refine k_isub E dX0_draw_19 ?_
  refine k_iast (y := (tanks f) - (if room < (tanks f) then room else (tanks f))) (j := f) (ws' := (wFA k h a0 a1 a2 a3 rr (nI nf) rooms (upd tanks f ((tanks f) - (if room < (tanks f) then room else (tanks f)))) cows bst)) E 2 0 rfl rfl rfl (by omega) (by decide) rfl rfl dX0_draw_20 ?_
  refine k_iload_n E 0 rfl rfl dX0_draw_21 ?_
  exact kw_iret E hr hlk rfl rfl (by decide) (by decide) dX0_draw_22
set_option maxRecDepth 100000 in
set_option maxHeartbeats 4000000 in
theorem m_X0_milkAll (l : Launch) (D : va_G) (k : Nat → ClassId) (h : Nat) (a0 : Nat) (a1 : Nat) (a2 : Nat) (a3 : Nat) (rr : Nat → Nat) (nf : Nat) (rooms : Nat → Int32) (tanks : Nat → Int32) (cows : Nat → Int32) (bst : Nat → Nat → Int32) (cw : Nat → Nat) (dz : Int32) (hn : nf ≤ 6) (hcw : ∀ i, i < nf → cows i = nI (cw i) ∧ cw i ≤ 5) : mW l yX0_milkAll cX0_milkAll 6 (some .int) 3 75 0 0 D (kTy k) [.ref h, .int dz] (wFA k h a0 a1 a2 a3 rr (nI nf) rooms tanks cows bst) (some (.int (poF rooms tanks bst cw dz nf))) (wFA k h a0 a1 a2 a3 rr (nI nf) rooms (tkF rooms tanks bst cw dz nf) cows bst) := by
  refine mW.of (lv' := [(0, .ref h), (1, .int dz)]) (by decide) (Nat.le_of_ble_eq_true rfl) rfl ?_
  intro p e s m args below meth c E hr hlk hm hA
  have L4 : ∀ (dn4 : Nat) (i : Nat) (tk : Nat → Int32) (x : Int32), i + dn4 = nf → (tk = tkF rooms tanks bst cw dz i) → (x = poF rooms tanks bst cw dz i) → kJ p l e (kRmc 3 75 0 0) s m args below meth c (gW D (va_A (wFA k h a0 a1 a2 a3 rr (nI nf) rooms tanks cows bst) s.heap.size) s.heap) 6 0 0 (MQ below (kQw (some (.int (poF rooms tanks bst cw dz nf))) D (wFA k h a0 a1 a2 a3 rr (nI nf) rooms tanks cows bst) (wFA k h a0 a1 a2 a3 rr (nI nf) rooms (tkF rooms tanks bst cw dz nf) cows bst) s.heap.size) args s 0 0 (va_A (wFA k h a0 a1 a2 a3 rr (nI nf) rooms tanks cows bst) s.heap.size)) (wFA k h a0 a1 a2 a3 rr (nI nf) rooms tk cows bst) 4 [(0, .ref h), (1, .int dz), (2, .int x), (3, .int (nI i))] [] := by
    intro dn4
    induction dn4 with
    | zero =>
      intro i tk x hd4 ht hx
      refine k_iload_n E 3 rfl rfl dX0_milkAll_4 ?_
      refine k_aload_n E 0 rfl rfl dX0_milkAll_5 ?_
      refine k_get E inX0 0 rfl rfl 0 (by decide) q_33 rfl rfl dX0_milkAll_6 ?_
      refine k_icmp_ge E (tgt := 65) (by decide) dX0_milkAll_9 (fun c9 => ?_) (fun c9 => absurd ((not_congr (nI_leI (a := nf) (b := i) (by omega) (by omega))).mp c9) (by omega))
      have c9 := (nI_leI (a := nf) (b := i) (by omega) (by omega)).mp c9
      refine k_iload_n E 2 rfl rfl dX0_milkAll_65 ?_
      exact kw_iret E hr hlk (by rw [hx, show i = nf by omega]) (by rw [ht, show i = nf by omega]) (by decide) (by decide) dX0_milkAll_66
    | succ dn4 ih4 =>
      intro i tk x hd4 ht hx
      refine k_iload_n E 3 rfl rfl dX0_milkAll_4 ?_
      refine k_aload_n E 0 rfl rfl dX0_milkAll_5 ?_
      refine k_get E inX0 0 rfl rfl 0 (by decide) q_33 rfl rfl dX0_milkAll_6 ?_
      refine k_icmp_ge E (tgt := 65) (by decide) dX0_milkAll_9 (fun c9 => absurd ((nI_leI (a := nf) (b := i) (by omega) (by omega)).mp c9) (by omega)) (fun c9 => ?_)
      have c9 := (not_congr (nI_leI (a := nf) (b := i) (by omega) (by omega))).mp c9
      refine k_aload_n E 0 rfl rfl dX0_milkAll_12 ?_
      refine k_iload_n E 3 rfl rfl dX0_milkAll_13 ?_
      refine k_iload_n E 1 rfl rfl dX0_milkAll_14 ?_
      refine k_callRV [.int (nI i), .int dz] E (m_X0_milkOn l D k h a0 a1 a2 a3 rr nf rooms tk cows bst i (cw i) dz (by first | assumption | omega) (hcw i (by omega)).1 (hcw i (by omega)).2) cf_X0_milkOn q_339 [0, 1, 2, 3, 4, 5, 6, 7, 8, 9, 10] rfl 0 rfl rfl rfl rfl ⟨by decide, by decide⟩ (Nat.le_of_ble_eq_true rfl) ⟨by decide, by decide⟩ dX0_milkAll_15 ?_
      refine k_steq (st' := [.int (milkF (bst i) dz (cw i))]) rfl ?_
      refine k_istore (lv' := [(4, .int (milkF (bst i) dz (cw i))), (0, .ref h), (1, .int dz), (2, .int x), (3, .int (nI i))]) E (by decide) rfl dX0_milkAll_18 ?_
      refine k_iload E 0 rfl dX0_milkAll_20 ?_
      refine k_aload_n E 1 rfl rfl dX0_milkAll_22 ?_
      refine k_get E inX0 0 rfl rfl 1 (by decide) q_35 rfl rfl dX0_milkAll_23 ?_
      refine k_iload_n E 4 rfl rfl dX0_milkAll_26 ?_
      refine k_iald E (j := i) 1 0 rfl rfl rfl (by omega) (by decide) dX0_milkAll_27 ?_
      refine k_aload_n E 1 rfl rfl dX0_milkAll_28 ?_
      refine k_get E inX0 0 rfl rfl 2 (by decide) q_36 rfl rfl dX0_milkAll_29 ?_
      refine k_iload_n E 4 rfl rfl dX0_milkAll_32 ?_
      refine k_iald E (j := i) 2 0 rfl rfl rfl (by omega) (by decide) dX0_milkAll_33 ?_
      refine k_isub E dX0_milkAll_34 ?_
      refine k_mmin E q_340 q_341 q_13 q_342 (by decide) (Nat.le_of_ble_eq_true rfl) (by decide) (by decide) dX0_milkAll_35 ?_
      refine k_istore (lv' := [(5, .int (if ((rooms i) - (tk i)) < (milkF (bst i) dz (cw i)) then ((rooms i) - (tk i)) else (milkF (bst i) dz (cw i)))), (4, .int (milkF (bst i) dz (cw i))), (0, .ref h), (1, .int dz), (2, .int x), (3, .int (nI i))]) E (by decide) rfl dX0_milkAll_38 ?_
      refine k_aload_n E 2 rfl rfl dX0_milkAll_40 ?_
      refine k_get E inX0 0 rfl rfl 2 (by decide) q_36 rfl rfl dX0_milkAll_41 ?_
      refine k_iload_n E 5 rfl rfl dX0_milkAll_44 ?_
      refine k_dup2 E rfl rfl dX0_milkAll_45 ?_
      refine k_iald E (j := i) 2 0 rfl rfl rfl (by omega) (by decide) dX0_milkAll_46 ?_
      refine k_iload E 0 rfl dX0_milkAll_47 ?_
      refine k_iadd E dX0_milkAll_49 ?_
      refine k_iast (y := (tk i) + (if ((rooms i) - (tk i)) < (milkF (bst i) dz (cw i)) then ((rooms i) - (tk i)) else (milkF (bst i) dz (cw i)))) (j := i) (ws' := (wFA k h a0 a1 a2 a3 rr (nI nf) rooms (upd tk i ((tk i) + (if ((rooms i) - (tk i)) < (milkF (bst i) dz (cw i)) then ((rooms i) - (tk i)) else (milkF (bst i) dz (cw i))))) cows bst)) E 2 0 rfl rfl rfl (by omega) (by decide) rfl rfl dX0_milkAll_50 ?_
      refine k_iload_n E 4 rfl rfl dX0_milkAll_51 ?_
      refine k_iload E 1 rfl dX0_milkAll_52 ?_
      refine k_iload E 0 rfl dX0_milkAll_54 ?_
      refine k_isub E dX0_milkAll_56 ?_
      refine k_iadd E dX0_milkAll_57 ?_
      refine k_istore_n (lv' := [(2, .int (x + ((milkF (bst i) dz (cw i)) - (if ((rooms i) - (tk i)) < (milkF (bst i) dz (cw i)) then ((rooms i) - (tk i)) else (milkF (bst i) dz (cw i)))))), (5, .int (if ((rooms i) - (tk i)) < (milkF (bst i) dz (cw i)) then ((rooms i) - (tk i)) else (milkF (bst i) dz (cw i)))), (4, .int (milkF (bst i) dz (cw i))), (0, .ref h), (1, .int dz), (3, .int (nI i))]) E rfl (by decide) rfl dX0_milkAll_58 ?_
      refine k_iinc (q := 5) (v := nI (i + 1)) (lv' := [(3, .int (nI (i + 1))), (2, .int (x + ((milkF (bst i) dz (cw i)) - (if ((rooms i) - (tk i)) < (milkF (bst i) dz (cw i)) then ((rooms i) - (tk i)) else (milkF (bst i) dz (cw i)))))), (5, .int (if ((rooms i) - (tk i)) < (milkF (bst i) dz (cw i)) then ((rooms i) - (tk i)) else (milkF (bst i) dz (cw i)))), (4, .int (milkF (bst i) dz (cw i))), (0, .ref h), (1, .int dz)]) E rfl (nI_inc _) (by decide) rfl dX0_milkAll_59 ?_
      refine k_goto E (tgt := 4) (by decide) dX0_milkAll_62 ?_
      refine k_lv [4, 5, 1, 0] rfl ?_
      exact ih4 (i + 1) (upd tk i ((tk i) + (if ((rooms i) - (tk i)) < (milkF (bst i) dz (cw i)) then ((rooms i) - (tk i)) else (milkF (bst i) dz (cw i))))) (x + ((milkF (bst i) dz (cw i)) - (if ((rooms i) - (tk i)) < (milkF (bst i) dz (cw i)) then ((rooms i) - (tk i)) else (milkF (bst i) dz (cw i))))) (by omega) (by rw [ht, show tkF rooms tanks bst cw dz i i = tanks i from wr_at _ _ _ _]; exact wr_t (v := fun j => tanks j + kpt rooms tanks bst cw dz j) rfl) (by rw [hx, ht, show tkF rooms tanks bst cw dz i i = tanks i from wr_at _ _ _ _]; simp [poF, sI]; rfl)
  refine k_iconst E (v := 0) (by decide) dX0_milkAll_0 ?_
  refine k_istore_n (lv' := [(2, .int 0), (0, .ref h), (1, .int dz)]) E rfl (by decide) rfl dX0_milkAll_1 ?_
  refine k_iconst E (v := 0) (by decide) dX0_milkAll_2 ?_
  refine k_istore_n (lv' := [(3, .int 0), (2, .int 0), (0, .ref h), (1, .int dz)]) E rfl (by decide) rfl dX0_milkAll_3 ?_
  refine k_lv [2, 3, 1, 0] rfl ?_
  exact L4 (nf - 0) 0 tanks 0 (by omega) (wr_0 _ _ _).symm rfl
