set_option maxRecDepth 100000 in
set_option maxHeartbeats 4000000 in
theorem m_X3_thrown (l : Launch) (D : va_G) (k : Nat → ClassId) (a : Nat → Nat) (dy : Nat) (rooms : Nat → Int32) (tanks : Nat → Int32) (bests : Nat → Int32) (cows : Nat → Int32) (nf : Nat) (vrooms : Nat → Int32) (inv : Nat → Int32) (vsh : Nat → Int32) (nv : Nat) (ub : Bool) (vis : Nat → Int32) (rounds : Int32) (itk : Int32) (farm : Nat → Int32) (amount : Nat → Int32) (mark : Nat → Int32) (ways : Nat → Int32) (n : Nat) (nb : Nat) (thr : Int32)  : mR l yX3_thrown cX3_thrown 1 (some .int) 0 0 D (kTy k) [.ref (a 0)] (wMO k a (nI dy) rooms tanks bests cows (nI nf) vrooms inv vsh (nI nv) (kB ub) vis rounds itk farm amount mark ways (nI n) (nI nb) thr) (some (.int thr)) := by
  refine mR.of (lv' := [(0, .ref (a 0))]) (by decide) (Nat.le_of_ble_eq_true rfl) rfl ?_
  intro p e s m args below meth c E hr hlk
  refine k_aload_n E 0 rfl rfl dX3_thrown_0 ?_
  refine k_get E inX3 0 rfl rfl 20 (by decide) q_695 rfl rfl dX3_thrown_1 ?_
  exact kr_iret E hr hlk rfl dX3_thrown_4
set_option maxRecDepth 100000 in
set_option maxHeartbeats 4000000 in
theorem m_X3_in (l : Launch) (D : va_G) (k : Nat → ClassId) (v : Int64) (lo : Int64) (hi : Int64)  : mR l yX3_in cX3_in 6 (some .boolean) 0 0 D (kTy k) [.long v, .long lo, .long hi] ([] : va_W) (some (.int (kB (inL v lo hi)))) := by
  refine mR.of (lv' := [(0, .long v), (2, .long lo), (4, .long hi)]) (by decide) (Nat.le_of_ble_eq_true rfl) rfl ?_
  intro p e s m args below meth c E hr hlk
  refine k_lload_n E 0 rfl rfl dX3_in_0 ?_
  refine k_lload_n E 1 rfl rfl dX3_in_1 ?_
  refine k_lcmp E dX3_in_2 ?_
  refine k_if_lt E (tgt := 17) (by decide) dX3_in_3 (fun c3 => ?_) (fun c3 => ?_)
  · skip
    refine k_iconst E (v := 0) (by decide) dX3_in_17 ?_
    exact kr_zret E hr hlk rfl (by simp only [inL]; simp [kB, *]) dX3_in_18
  · skip
    refine k_lload_n E 0 rfl rfl dX3_in_6 ?_
    refine k_lload E 2 rfl dX3_in_7 ?_
    refine k_lcmp E dX3_in_9 ?_
    refine k_if_gt E (tgt := 17) (by decide) dX3_in_10 (fun c10 => ?_) (fun c10 => ?_)
    · skip
      refine k_iconst E (v := 0) (by decide) dX3_in_17 ?_
      exact kr_zret E hr hlk rfl (by simp only [inL]; simp [kB, *]) dX3_in_18
    · skip
      refine k_iconst E (v := 1) (by decide) dX3_in_13 ?_
      refine k_goto E (tgt := 18) (by decide) dX3_in_14 ?_
      exact kr_zret E hr hlk rfl (by simp only [inL]; simp [kB, *]) dX3_in_18
set_option maxRecDepth 100000 in
set_option maxHeartbeats 4000000 in
theorem m_X3_gives (l : Launch) (D : va_G) (k : Nat → ClassId) (b : Int32) (dz : Int32)  : mR l yX3_gives cX3_gives 4 (some .int) 0 0 D (kTy k) [.int b, .int dz] ([] : va_W) (some (.int (milkC b dz))) := by
  refine mR.of (lv' := [(0, .int b), (1, .int dz)]) (by decide) (Nat.le_of_ble_eq_true rfl) rfl ?_
  intro p e s m args below meth c E hr hlk
  refine k_iconst E (v := 5) (by decide) dX3_gives_0 ?_
  refine k_iload_n E 1 rfl rfl dX3_gives_1 ?_
  refine k_bipush E (v := 10) (by decide) dX3_gives_2 ?_
  refine k_irem E (by decide) dX3_gives_4 ?_
  refine k_isub E dX3_gives_5 ?_
  refine k_istore_n (lv' := [(2, .int (5 - (dz - dz / 10 * 10))), (0, .int b), (1, .int dz)]) E rfl (by decide) rfl dX3_gives_6 ?_
  refine k_iload_n E 1 rfl rfl dX3_gives_7 ?_
  refine k_iload_n E 0 rfl rfl dX3_gives_8 ?_
  refine k_if_ge E (tgt := 17) (by decide) dX3_gives_9 (fun c9 => ?_) (fun c9 => ?_)
  · skip
    have g1 := @milkC_1 b dz c9
    have g2 := @milkC_2 b dz c9
    refine k_iload_n E 0 rfl rfl dX3_gives_17 ?_
    refine k_isub E dX3_gives_18 ?_
    refine k_istore_n (lv' := [(3, .int (b - (5 - (dz - dz / 10 * 10)))), (2, .int (5 - (dz - dz / 10 * 10))), (0, .int b), (1, .int dz)]) E rfl (by decide) rfl dX3_gives_19 ?_
    refine k_iload_n E 0 rfl rfl dX3_gives_20 ?_
    refine k_iconst E (v := 5) (by decide) dX3_gives_21 ?_
    refine k_icmp_ge E (tgt := 29) (by decide) dX3_gives_22 (fun c22 => ?_) (fun c22 => ?_)
    · skip
      have g3 := g1 c22
      refine k_iload_n E 0 rfl rfl dX3_gives_29 ?_
      exact kr_iret E hr hlk (by rw [g3]) dX3_gives_30
    · skip
      have g3 := g2 c22
      refine k_iconst E (v := 5) (by decide) dX3_gives_25 ?_
      refine k_goto E (tgt := 30) (by decide) dX3_gives_26 ?_
      exact kr_iret E hr hlk (by rw [g3]) dX3_gives_30
  · skip
    have g1 := @milkC_3 b dz c9
    have g2 := @milkC_4 b dz c9
    refine k_iload_n E 0 rfl rfl dX3_gives_12 ?_
    refine k_ineg E dX3_gives_13 ?_
    refine k_goto E (tgt := 18) (by decide) dX3_gives_14 ?_
    refine k_isub E dX3_gives_18 ?_
    refine k_istore_n (lv' := [(3, .int (b - (-(5 - (dz - dz / 10 * 10))))), (2, .int (5 - (dz - dz / 10 * 10))), (0, .int b), (1, .int dz)]) E rfl (by decide) rfl dX3_gives_19 ?_
    refine k_iload_n E 0 rfl rfl dX3_gives_20 ?_
    refine k_iconst E (v := 5) (by decide) dX3_gives_21 ?_
    refine k_icmp_ge E (tgt := 29) (by decide) dX3_gives_22 (fun c22 => ?_) (fun c22 => ?_)
    · skip
      have g3 := g1 c22
      refine k_iload_n E 0 rfl rfl dX3_gives_29 ?_
      exact kr_iret E hr hlk (by rw [g3]) dX3_gives_30
    · skip
      have g3 := g2 c22
      refine k_iconst E (v := 5) (by decide) dX3_gives_25 ?_
      refine k_goto E (tgt := 30) (by decide) dX3_gives_26 ?_
      exact kr_iret E hr hlk (by rw [g3]) dX3_gives_30
set_option maxRecDepth 100000 in
set_option maxHeartbeats 4000000 in
theorem m_X3_isFarm (l : Launch) (D : va_G) (k : Nat → ClassId) (a : Nat → Nat) (dy : Nat) (rooms : Nat → Int32) (tanks : Nat → Int32) (bests : Nat → Int32) (cows : Nat → Int32) (nf : Nat) (vrooms : Nat → Int32) (inv : Nat → Int32) (vsh : Nat → Int32) (nv : Nat) (ub : Bool) (vis : Nat → Int32) (rounds : Int32) (itk : Int32) (farm : Nat → Int32) (amount : Nat → Int32) (mark : Nat → Int32) (ways : Nat → Int32) (n : Nat) (nb : Nat) (thr : Int32) (fa : Int32)  : mR l yX3_isFarm cX3_isFarm 2 (some .boolean) 1 25 D (kTy k) [.ref (a 0), .int fa] (wMO k a (nI dy) rooms tanks bests cows (nI nf) vrooms inv vsh (nI nv) (kB ub) vis rounds itk farm amount mark ways (nI n) (nI nb) thr) (some (.int (kB (isR fa nf)))) := by
  refine mR.of (lv' := [(0, .ref (a 0)), (1, .int fa)]) (by decide) (Nat.le_of_ble_eq_true rfl) rfl ?_
  intro p e s m args below meth c E hr hlk
  refine k_iload_n E 1 rfl rfl dX3_isFarm_0 ?_
  refine k_i2l E (v := fa.toInt64) rfl dX3_isFarm_1 ?_
  refine k_lconst E (v := 0) (by decide) dX3_isFarm_2 ?_
  refine k_aload_n E 0 rfl rfl dX3_isFarm_3 ?_
  refine k_get E inX3 0 rfl rfl 5 (by decide) q_680 rfl rfl dX3_isFarm_4 ?_
  refine k_iconst E (v := 1) (by decide) dX3_isFarm_7 ?_
  refine k_isub E dX3_isFarm_8 ?_
  refine k_i2l E (v := ((nI nf) - 1).toInt64) rfl dX3_isFarm_9 ?_
  refine k_callRS [.long fa.toInt64, .long 0, .long (((nI nf) - 1).toInt64)] E (m_X3_in l D k fa.toInt64 0 (((nI nf) - 1).toInt64)) cf_X3_in q_749 [] rfl rfl rfl ⟨by decide, by decide⟩ (Nat.le_of_ble_eq_true rfl) ⟨by decide, by decide⟩ dX3_isFarm_10 ?_
  refine k_steq (st' := [.int (kB (inL fa.toInt64 0 (((nI nf) - 1).toInt64)))]) rfl ?_
  exact kr_zret E hr hlk (kB_z _) rfl dX3_isFarm_13
set_option maxRecDepth 100000 in
set_option maxHeartbeats 4000000 in
theorem m_X3_isVat (l : Launch) (D : va_G) (k : Nat → ClassId) (a : Nat → Nat) (dy : Nat) (rooms : Nat → Int32) (tanks : Nat → Int32) (bests : Nat → Int32) (cows : Nat → Int32) (nf : Nat) (vrooms : Nat → Int32) (inv : Nat → Int32) (vsh : Nat → Int32) (nv : Nat) (ub : Bool) (vis : Nat → Int32) (rounds : Int32) (itk : Int32) (farm : Nat → Int32) (amount : Nat → Int32) (mark : Nat → Int32) (ways : Nat → Int32) (n : Nat) (nb : Nat) (thr : Int32) (fa : Int32)  : mR l yX3_isVat cX3_isVat 2 (some .boolean) 1 25 D (kTy k) [.ref (a 0), .int fa] (wMO k a (nI dy) rooms tanks bests cows (nI nf) vrooms inv vsh (nI nv) (kB ub) vis rounds itk farm amount mark ways (nI n) (nI nb) thr) (some (.int (kB (isR fa nv)))) := by
  refine mR.of (lv' := [(0, .ref (a 0)), (1, .int fa)]) (by decide) (Nat.le_of_ble_eq_true rfl) rfl ?_
  intro p e s m args below meth c E hr hlk
  refine k_iload_n E 1 rfl rfl dX3_isVat_0 ?_
  refine k_i2l E (v := fa.toInt64) rfl dX3_isVat_1 ?_
  refine k_lconst E (v := 0) (by decide) dX3_isVat_2 ?_
  refine k_aload_n E 0 rfl rfl dX3_isVat_3 ?_
  refine k_get E inX3 0 rfl rfl 9 (by decide) q_684 rfl rfl dX3_isVat_4 ?_
  refine k_iconst E (v := 1) (by decide) dX3_isVat_7 ?_
  refine k_isub E dX3_isVat_8 ?_
  refine k_i2l E (v := ((nI nv) - 1).toInt64) rfl dX3_isVat_9 ?_
  refine k_callRS [.long fa.toInt64, .long 0, .long (((nI nv) - 1).toInt64)] E (m_X3_in l D k fa.toInt64 0 (((nI nv) - 1).toInt64)) cf_X3_in q_749 [] rfl rfl rfl ⟨by decide, by decide⟩ (Nat.le_of_ble_eq_true rfl) ⟨by decide, by decide⟩ dX3_isVat_10 ?_
  refine k_steq (st' := [.int (kB (inL fa.toInt64 0 (((nI nv) - 1).toInt64)))]) rfl ?_
  exact kr_zret E hr hlk (kB_z _) rfl dX3_isVat_13
set_option maxRecDepth 100000 in
set_option maxHeartbeats 4000000 in
theorem m_X3_isBatch (l : Launch) (D : va_G) (k : Nat → ClassId) (a : Nat → Nat) (dy : Nat) (rooms : Nat → Int32) (tanks : Nat → Int32) (bests : Nat → Int32) (cows : Nat → Int32) (nf : Nat) (vrooms : Nat → Int32) (inv : Nat → Int32) (vsh : Nat → Int32) (nv : Nat) (ub : Bool) (vis : Nat → Int32) (rounds : Int32) (itk : Int32) (farm : Nat → Int32) (amount : Nat → Int32) (mark : Nat → Int32) (ways : Nat → Int32) (n : Nat) (nb : Nat) (thr : Int32) (fa : Int32)  : mR l yX3_isBatch cX3_isBatch 2 (some .boolean) 1 25 D (kTy k) [.ref (a 0), .int fa] (wMO k a (nI dy) rooms tanks bests cows (nI nf) vrooms inv vsh (nI nv) (kB ub) vis rounds itk farm amount mark ways (nI n) (nI nb) thr) (some (.int (kB (isR fa nb)))) := by
  refine mR.of (lv' := [(0, .ref (a 0)), (1, .int fa)]) (by decide) (Nat.le_of_ble_eq_true rfl) rfl ?_
  intro p e s m args below meth c E hr hlk
  refine k_iload_n E 1 rfl rfl dX3_isBatch_0 ?_
  refine k_i2l E (v := fa.toInt64) rfl dX3_isBatch_1 ?_
  refine k_lconst E (v := 0) (by decide) dX3_isBatch_2 ?_
  refine k_aload_n E 0 rfl rfl dX3_isBatch_3 ?_
  refine k_get E inX3 0 rfl rfl 19 (by decide) q_694 rfl rfl dX3_isBatch_4 ?_
  refine k_iconst E (v := 1) (by decide) dX3_isBatch_7 ?_
  refine k_isub E dX3_isBatch_8 ?_
  refine k_i2l E (v := ((nI nb) - 1).toInt64) rfl dX3_isBatch_9 ?_
  refine k_callRS [.long fa.toInt64, .long 0, .long (((nI nb) - 1).toInt64)] E (m_X3_in l D k fa.toInt64 0 (((nI nb) - 1).toInt64)) cf_X3_in q_749 [] rfl rfl rfl ⟨by decide, by decide⟩ (Nat.le_of_ble_eq_true rfl) ⟨by decide, by decide⟩ dX3_isBatch_10 ?_
  refine k_steq (st' := [.int (kB (inL fa.toInt64 0 (((nI nb) - 1).toInt64)))]) rfl ?_
  exact kr_zret E hr hlk (kB_z _) rfl dX3_isBatch_13
set_option maxRecDepth 100000 in
set_option maxHeartbeats 4000000 in
theorem m_X3_addFarm (l : Launch) (D : va_G) (k : Nat → ClassId) (a : Nat → Nat) (dy : Nat) (rooms : Nat → Int32) (tanks : Nat → Int32) (bests : Nat → Int32) (cows : Nat → Int32) (nf : Nat) (vrooms : Nat → Int32) (inv : Nat → Int32) (vsh : Nat → Int32) (nv : Nat) (ub : Bool) (vis : Nat → Int32) (rounds : Int32) (itk : Int32) (farm : Nat → Int32) (amount : Nat → Int32) (mark : Nat → Int32) (ways : Nat → Int32) (n : Nat) (nb : Nat) (thr : Int32) (room : Int32) (h1 : ¬ room < 10) (h2 : room ≤ 200) (hn6 : nf < 6) : mW l yX3_addFarm cX3_addFarm 2 (some .int) 1 25 0 0 D (kTy k) [.ref (a 0), .int room] (wMO k a (nI dy) rooms tanks bests cows (nI nf) vrooms inv vsh (nI nv) (kB ub) vis rounds itk farm amount mark ways (nI n) (nI nb) thr) (some (.int (nI nf))) (wMO k a (nI dy) (upd rooms nf room) tanks bests cows (nI (nf + 1)) vrooms inv vsh (nI nv) (kB ub) vis rounds itk farm amount mark ways (nI n) (nI nb) 0) := by
  refine mW.of (lv' := [(0, .ref (a 0)), (1, .int room)]) (by decide) (Nat.le_of_ble_eq_true rfl) rfl ?_
  intro p e s m args below meth c E hr hlk hm hA
  refine k_aload_n E 0 rfl rfl dX3_addFarm_0 ?_
  refine k_iload_n E 1 rfl rfl dX3_addFarm_1 ?_
  refine k_i2l E (v := room.toInt64) rfl dX3_addFarm_2 ?_
  refine k_ldc2 E (v := 10) q_747 dX3_addFarm_3 ?_
  refine k_ldc2 E (v := 200) q_748 dX3_addFarm_6 ?_
  refine k_callRS [.long room.toInt64, .long 10, .long 200] E (m_X3_in l D k room.toInt64 10 200) cf_X3_in q_749 [] rfl rfl rfl ⟨by decide, by decide⟩ (Nat.le_of_ble_eq_true rfl) ⟨by decide, by decide⟩ dX3_addFarm_9 ?_
  refine k_steq (st' := [.int (kB (inL room.toInt64 10 200)), .ref (a 0)]) rfl ?_
  refine k_if_ne E (tgt := 19) (by decide) dX3_addFarm_12 (fun c12 => ?_) (fun c12 => absurd (kB_f c12) (by rw [inL_t (a := 10) (b := 200) 10 200 (by decide) (by decide) h1 h2]; decide))
  have c12 := kB_t c12
  refine k_aload_n E 0 rfl rfl dX3_addFarm_19 ?_
  refine k_get E inX3 0 rfl rfl 5 (by decide) q_680 rfl rfl dX3_addFarm_20 ?_
  refine k_bipush E (v := 6) (by decide) dX3_addFarm_23 ?_
  refine k_icmp_ne E (tgt := 32) (by decide) dX3_addFarm_25 (fun c25 => ?_) (fun c25 => absurd ((nI_eq (a := nf) (b := 6) (by omega) (by omega)).mp c25) (by omega))
  have c25 := (not_congr (nI_eq (a := nf) (b := 6) (by omega) (by omega))).mp c25
  refine k_iconst E (v := 0) (by decide) dX3_addFarm_32 ?_
  refine k_put (ws' := (wMO k a (nI dy) rooms tanks bests cows (nI nf) vrooms inv vsh (nI nv) (kB ub) vis rounds itk farm amount mark ways (nI n) (nI nb) 0)) E inX3 tyX3 tyX3_ok nmX3 0 rfl rfl 20 (by decide) q_695 rfl rfl rfl rfl (Nat.le_of_ble_eq_true rfl) rfl dX3_addFarm_33 ?_
  refine k_aload_n E 0 rfl rfl dX3_addFarm_36 ?_
  refine k_get E inX3 0 rfl rfl 20 (by decide) q_695 rfl rfl dX3_addFarm_37 ?_
  refine k_if_le E (tgt := 45) (by decide) dX3_addFarm_40 (fun _ => ?_) (fun h => absurd (by decide) h)
  refine k_aload_n E 0 rfl rfl dX3_addFarm_45 ?_
  refine k_get E inX3 0 rfl rfl 1 (by decide) q_676 rfl rfl dX3_addFarm_46 ?_
  refine k_aload_n E 0 rfl rfl dX3_addFarm_49 ?_
  refine k_get E inX3 0 rfl rfl 5 (by decide) q_680 rfl rfl dX3_addFarm_50 ?_
  refine k_iload_n E 1 rfl rfl dX3_addFarm_53 ?_
  refine k_iast (y := room) (j := nf) (ws' := (wMO k a (nI dy) (upd rooms nf room) tanks bests cows (nI nf) vrooms inv vsh (nI nv) (kB ub) vis rounds itk farm amount mark ways (nI n) (nI nb) 0)) E 1 0 rfl rfl rfl (by omega) (by decide) rfl rfl dX3_addFarm_54 ?_
  refine k_aload_n E 0 rfl rfl dX3_addFarm_55 ?_
  refine k_dup E rfl dX3_addFarm_56 ?_
  refine k_get E inX3 0 rfl rfl 5 (by decide) q_680 rfl rfl dX3_addFarm_57 ?_
  refine k_iconst E (v := 1) (by decide) dX3_addFarm_60 ?_
  refine k_iadd E dX3_addFarm_61 ?_
  refine k_steq (st' := [.int (nI (nf + 1)), .ref (a 0)]) (by rw [show (nI nf) + 1 = nI (nf + 1) from nI_1 nf]) ?_
  refine k_put (ws' := (wMO k a (nI dy) (upd rooms nf room) tanks bests cows (nI (nf + 1)) vrooms inv vsh (nI nv) (kB ub) vis rounds itk farm amount mark ways (nI n) (nI nb) 0)) E inX3 tyX3 tyX3_ok nmX3 0 rfl rfl 5 (by decide) q_680 rfl rfl rfl rfl (Nat.le_of_ble_eq_true rfl) rfl dX3_addFarm_62 ?_
  refine k_aload_n E 0 rfl rfl dX3_addFarm_65 ?_
  refine k_get E inX3 0 rfl rfl 5 (by decide) q_680 rfl rfl dX3_addFarm_66 ?_
  refine k_iconst E (v := 1) (by decide) dX3_addFarm_69 ?_
  refine k_isub E dX3_addFarm_70 ?_
  refine k_steq (st' := [.int (nI nf)]) (by rw [show (nI (nf + 1)) - 1 = nI nf from nI_pred nf]) ?_
  exact kw_iret E hr hlk rfl rfl (by decide) (by decide) dX3_addFarm_71
set_option maxRecDepth 100000 in
set_option maxHeartbeats 4000000 in
theorem m_X3_addFarm_a (l : Launch) (D : va_G) (k : Nat → ClassId) (a : Nat → Nat) (dy : Nat) (rooms : Nat → Int32) (tanks : Nat → Int32) (bests : Nat → Int32) (cows : Nat → Int32) (nf : Nat) (vrooms : Nat → Int32) (inv : Nat → Int32) (vsh : Nat → Int32) (nv : Nat) (ub : Bool) (vis : Nat → Int32) (rounds : Int32) (itk : Int32) (farm : Nat → Int32) (amount : Nat → Int32) (mark : Nat → Int32) (ways : Nat → Int32) (n : Nat) (nb : Nat) (thr : Int32) (room : Int32) (hb : room < 10 ∨ 200 < room) : mW l yX3_addFarm cX3_addFarm 2 (some .int) 1 25 0 0 D (kTy k) [.ref (a 0), .int room] (wMO k a (nI dy) rooms tanks bests cows (nI nf) vrooms inv vsh (nI nv) (kB ub) vis rounds itk farm amount mark ways (nI n) (nI nb) thr) (some (.int (-1))) (wMO k a (nI dy) rooms tanks bests cows (nI nf) vrooms inv vsh (nI nv) (kB ub) vis rounds itk farm amount mark ways (nI n) (nI nb) 1) := by
  refine mW.of (lv' := [(0, .ref (a 0)), (1, .int room)]) (by decide) (Nat.le_of_ble_eq_true rfl) rfl ?_
  intro p e s m args below meth c E hr hlk hm hA
  refine k_aload_n E 0 rfl rfl dX3_addFarm_0 ?_
  refine k_iload_n E 1 rfl rfl dX3_addFarm_1 ?_
  refine k_i2l E (v := room.toInt64) rfl dX3_addFarm_2 ?_
  refine k_ldc2 E (v := 10) q_747 dX3_addFarm_3 ?_
  refine k_ldc2 E (v := 200) q_748 dX3_addFarm_6 ?_
  refine k_callRS [.long room.toInt64, .long 10, .long 200] E (m_X3_in l D k room.toInt64 10 200) cf_X3_in q_749 [] rfl rfl rfl ⟨by decide, by decide⟩ (Nat.le_of_ble_eq_true rfl) ⟨by decide, by decide⟩ dX3_addFarm_9 ?_
  refine k_steq (st' := [.int (kB (inL room.toInt64 10 200)), .ref (a 0)]) rfl ?_
  refine k_if_ne E (tgt := 19) (by decide) dX3_addFarm_12 (fun c12 => absurd (kB_t c12) (by rw [inL_f (a := 10) (b := 200) 10 200 (by decide) (by decide) hb]; decide)) (fun c12 => ?_)
  have c12 := kB_f c12
  refine k_iconst E (v := 1) (by decide) dX3_addFarm_15 ?_
  refine k_goto E (tgt := 33) (by decide) dX3_addFarm_16 ?_
  refine k_put (ws' := (wMO k a (nI dy) rooms tanks bests cows (nI nf) vrooms inv vsh (nI nv) (kB ub) vis rounds itk farm amount mark ways (nI n) (nI nb) 1)) E inX3 tyX3 tyX3_ok nmX3 0 rfl rfl 20 (by decide) q_695 rfl rfl rfl rfl (Nat.le_of_ble_eq_true rfl) rfl dX3_addFarm_33 ?_
  refine k_aload_n E 0 rfl rfl dX3_addFarm_36 ?_
  refine k_get E inX3 0 rfl rfl 20 (by decide) q_695 rfl rfl dX3_addFarm_37 ?_
  refine k_if_le E (tgt := 45) (by decide) dX3_addFarm_40 (fun h => absurd h (by decide)) (fun _ => ?_)
  refine k_iconst E (v := (-1)) (by decide) dX3_addFarm_43 ?_
  exact kw_iret E hr hlk rfl rfl (by decide) (by decide) dX3_addFarm_44
set_option maxRecDepth 100000 in
set_option maxHeartbeats 4000000 in
theorem m_X3_addFarm_s (l : Launch) (D : va_G) (k : Nat → ClassId) (a : Nat → Nat) (dy : Nat) (rooms : Nat → Int32) (tanks : Nat → Int32) (bests : Nat → Int32) (cows : Nat → Int32) (nf : Nat) (vrooms : Nat → Int32) (inv : Nat → Int32) (vsh : Nat → Int32) (nv : Nat) (ub : Bool) (vis : Nat → Int32) (rounds : Int32) (itk : Int32) (farm : Nat → Int32) (amount : Nat → Int32) (mark : Nat → Int32) (ways : Nat → Int32) (n : Nat) (nb : Nat) (thr : Int32) (room : Int32) (h1 : ¬ room < 10) (h2 : room ≤ 200) (hn6 : nf = 6) : mW l yX3_addFarm cX3_addFarm 2 (some .int) 1 25 0 0 D (kTy k) [.ref (a 0), .int room] (wMO k a (nI dy) rooms tanks bests cows (nI nf) vrooms inv vsh (nI nv) (kB ub) vis rounds itk farm amount mark ways (nI n) (nI nb) thr) (some (.int (-1))) (wMO k a (nI dy) rooms tanks bests cows (nI nf) vrooms inv vsh (nI nv) (kB ub) vis rounds itk farm amount mark ways (nI n) (nI nb) 2) := by
  refine mW.of (lv' := [(0, .ref (a 0)), (1, .int room)]) (by decide) (Nat.le_of_ble_eq_true rfl) rfl ?_
  intro p e s m args below meth c E hr hlk hm hA
  refine k_aload_n E 0 rfl rfl dX3_addFarm_0 ?_
  refine k_iload_n E 1 rfl rfl dX3_addFarm_1 ?_
  refine k_i2l E (v := room.toInt64) rfl dX3_addFarm_2 ?_
  refine k_ldc2 E (v := 10) q_747 dX3_addFarm_3 ?_
  refine k_ldc2 E (v := 200) q_748 dX3_addFarm_6 ?_
  refine k_callRS [.long room.toInt64, .long 10, .long 200] E (m_X3_in l D k room.toInt64 10 200) cf_X3_in q_749 [] rfl rfl rfl ⟨by decide, by decide⟩ (Nat.le_of_ble_eq_true rfl) ⟨by decide, by decide⟩ dX3_addFarm_9 ?_
  refine k_steq (st' := [.int (kB (inL room.toInt64 10 200)), .ref (a 0)]) rfl ?_
  refine k_if_ne E (tgt := 19) (by decide) dX3_addFarm_12 (fun c12 => ?_) (fun c12 => absurd (kB_f c12) (by rw [inL_t (a := 10) (b := 200) 10 200 (by decide) (by decide) h1 h2]; decide))
  have c12 := kB_t c12
  refine k_aload_n E 0 rfl rfl dX3_addFarm_19 ?_
  refine k_get E inX3 0 rfl rfl 5 (by decide) q_680 rfl rfl dX3_addFarm_20 ?_
  refine k_bipush E (v := 6) (by decide) dX3_addFarm_23 ?_
  refine k_icmp_ne E (tgt := 32) (by decide) dX3_addFarm_25 (fun c25 => absurd ((not_congr (nI_eq (a := nf) (b := 6) (by omega) (by omega))).mp c25) (by omega)) (fun c25 => ?_)
  have c25 := (nI_eq (a := nf) (b := 6) (by omega) (by omega)).mp c25
  refine k_iconst E (v := 2) (by decide) dX3_addFarm_28 ?_
  refine k_goto E (tgt := 33) (by decide) dX3_addFarm_29 ?_
  refine k_put (ws' := (wMO k a (nI dy) rooms tanks bests cows (nI nf) vrooms inv vsh (nI nv) (kB ub) vis rounds itk farm amount mark ways (nI n) (nI nb) 2)) E inX3 tyX3 tyX3_ok nmX3 0 rfl rfl 20 (by decide) q_695 rfl rfl rfl rfl (Nat.le_of_ble_eq_true rfl) rfl dX3_addFarm_33 ?_
  refine k_aload_n E 0 rfl rfl dX3_addFarm_36 ?_
  refine k_get E inX3 0 rfl rfl 20 (by decide) q_695 rfl rfl dX3_addFarm_37 ?_
  refine k_if_le E (tgt := 45) (by decide) dX3_addFarm_40 (fun h => absurd h (by decide)) (fun _ => ?_)
  refine k_iconst E (v := (-1)) (by decide) dX3_addFarm_43 ?_
  exact kw_iret E hr hlk rfl rfl (by decide) (by decide) dX3_addFarm_44
set_option maxRecDepth 100000 in
set_option maxHeartbeats 4000000 in
theorem m_X3_addCow (l : Launch) (D : va_G) (k : Nat → ClassId) (a : Nat → Nat) (dy : Nat) (rooms : Nat → Int32) (tanks : Nat → Int32) (bests : Nat → Int32) (cows : Nat → Int32) (nf : Nat) (vrooms : Nat → Int32) (inv : Nat → Int32) (vsh : Nat → Int32) (nv : Nat) (ub : Bool) (vis : Nat → Int32) (rounds : Int32) (itk : Int32) (farm : Nat → Int32) (amount : Nat → Int32) (mark : Nat → Int32) (ways : Nat → Int32) (n : Nat) (nb : Nat) (thr : Int32) (j : Nat) (best : Int32) (cz : Nat) (hj : j < nf) (hnf : nf ≤ 6) (h1 : ¬ best < 5) (h2 : best ≤ 30) (hc : cows j = nI cz) (hc5 : cz < 5) : mW l yX3_addCow cX3_addCow 3 (some .int) 2 46 0 0 D (kTy k) [.ref (a 0), .int (nI j), .int best] (wMO k a (nI dy) rooms tanks bests cows (nI nf) vrooms inv vsh (nI nv) (kB ub) vis rounds itk farm amount mark ways (nI n) (nI nb) thr) (some (.int (nI (cz + 1)))) (wMO k a (nI dy) rooms tanks (upd bests (5 * j + cz) best) (upd cows j (nI (cz + 1))) (nI nf) vrooms inv vsh (nI nv) (kB ub) vis rounds itk farm amount mark ways (nI n) (nI nb) 0) := by
  refine mW.of (lv' := [(0, .ref (a 0)), (1, .int (nI j)), (2, .int best)]) (by decide) (Nat.le_of_ble_eq_true rfl) rfl ?_
  intro p e s m args below meth c E hr hlk hm hA
  refine k_aload_n E 0 rfl rfl dX3_addCow_0 ?_
  refine k_aload_n E 0 rfl rfl dX3_addCow_1 ?_
  refine k_iload_n E 1 rfl rfl dX3_addCow_2 ?_
  refine k_callRV [.int (nI j)] E (m_X3_isFarm l D k a dy rooms tanks bests cows nf vrooms inv vsh nv ub vis rounds itk farm amount mark ways n nb thr (nI j)) cf_X3_isFarm q_756 [0, 1, 2, 3, 4, 5, 6, 7, 8, 9, 10, 11, 12] rfl 0 rfl rfl rfl rfl ⟨by decide, by decide⟩ (Nat.le_of_ble_eq_true rfl) ⟨by decide, by decide⟩ dX3_addCow_3 ?_
  refine k_steq (st' := [.int (kB (isR (nI j) nf)), .ref (a 0)]) rfl ?_
  refine k_if_ne E (tgt := 13) (by decide) dX3_addCow_6 (fun c6 => ?_) (fun c6 => absurd (kB_f c6) (by rw [isR_t hj (by omega)]; decide))
  have c6 := kB_t c6
  refine k_iload_n E 2 rfl rfl dX3_addCow_13 ?_
  refine k_i2l E (v := best.toInt64) rfl dX3_addCow_14 ?_
  refine k_ldc2 E (v := 5) q_760 dX3_addCow_15 ?_
  refine k_ldc2 E (v := 30) q_761 dX3_addCow_18 ?_
  refine k_callRS [.long best.toInt64, .long 5, .long 30] E (m_X3_in l D k best.toInt64 5 30) cf_X3_in q_749 [] rfl rfl rfl ⟨by decide, by decide⟩ (Nat.le_of_ble_eq_true rfl) ⟨by decide, by decide⟩ dX3_addCow_21 ?_
  refine k_steq (st' := [.int (kB (inL best.toInt64 5 30)), .ref (a 0)]) rfl ?_
  refine k_if_ne E (tgt := 31) (by decide) dX3_addCow_24 (fun c24 => ?_) (fun c24 => absurd (kB_f c24) (by rw [inL_t (a := 5) (b := 30) 5 30 (by decide) (by decide) h1 h2]; decide))
  have c24 := kB_t c24
  refine k_aload_n E 0 rfl rfl dX3_addCow_31 ?_
  refine k_get E inX3 0 rfl rfl 4 (by decide) q_679 rfl rfl dX3_addCow_32 ?_
  refine k_iload_n E 1 rfl rfl dX3_addCow_35 ?_
  refine k_iald E (j := j) 4 0 rfl rfl rfl (by omega) (by decide) dX3_addCow_36 ?_
  refine k_steq (st' := [.int (nI cz), .ref (a 0)]) (by rw [show cows j = nI cz from hc]) ?_
  refine k_iconst E (v := 5) (by decide) dX3_addCow_37 ?_
  refine k_icmp_ne E (tgt := 45) (by decide) dX3_addCow_38 (fun c38 => ?_) (fun c38 => absurd ((nI_eq (a := cz) (b := 5) (by omega) (by omega)).mp c38) (by omega))
  have c38 := (not_congr (nI_eq (a := cz) (b := 5) (by omega) (by omega))).mp c38
  refine k_iconst E (v := 0) (by decide) dX3_addCow_45 ?_
  refine k_put (ws' := (wMO k a (nI dy) rooms tanks bests cows (nI nf) vrooms inv vsh (nI nv) (kB ub) vis rounds itk farm amount mark ways (nI n) (nI nb) 0)) E inX3 tyX3 tyX3_ok nmX3 0 rfl rfl 20 (by decide) q_695 rfl rfl rfl rfl (Nat.le_of_ble_eq_true rfl) rfl dX3_addCow_46 ?_
  refine k_aload_n E 0 rfl rfl dX3_addCow_49 ?_
  refine k_get E inX3 0 rfl rfl 20 (by decide) q_695 rfl rfl dX3_addCow_50 ?_
  refine k_if_le E (tgt := 58) (by decide) dX3_addCow_53 (fun _ => ?_) (fun h => absurd (by decide) h)
  refine k_aload_n E 0 rfl rfl dX3_addCow_58 ?_
  refine k_get E inX3 0 rfl rfl 3 (by decide) q_678 rfl rfl dX3_addCow_59 ?_
  refine k_iconst E (v := 5) (by decide) dX3_addCow_62 ?_
  refine k_iload_n E 1 rfl rfl dX3_addCow_63 ?_
  refine k_imul E dX3_addCow_64 ?_
  refine k_steq (st' := [.int (nI (5 * j)), .ref (a 3)]) (by rw [show 5 * (nI j) = nI (5 * j) from pk_mul 5 j]) ?_
  refine k_aload_n E 0 rfl rfl dX3_addCow_65 ?_
  refine k_get E inX3 0 rfl rfl 4 (by decide) q_679 rfl rfl dX3_addCow_66 ?_
  refine k_iload_n E 1 rfl rfl dX3_addCow_69 ?_
  refine k_iald E (j := j) 4 0 rfl rfl rfl (by omega) (by decide) dX3_addCow_70 ?_
  refine k_steq (st' := [.int (nI cz), .int (nI (5 * j)), .ref (a 3)]) (by rw [show cows j = nI cz from hc]) ?_
  refine k_iadd E dX3_addCow_71 ?_
  refine k_steq (st' := [.int (nI (5 * j + cz)), .ref (a 3)]) (by rw [show (nI (5 * j)) + (nI cz) = nI (5 * j + cz) from nI_add _ _]) ?_
  refine k_iload_n E 2 rfl rfl dX3_addCow_72 ?_
  refine k_iast (y := best) (j := (5 * j + cz)) (ws' := (wMO k a (nI dy) rooms tanks (upd bests (5 * j + cz) best) cows (nI nf) vrooms inv vsh (nI nv) (kB ub) vis rounds itk farm amount mark ways (nI n) (nI nb) 0)) E 3 0 rfl rfl rfl (by omega) (by decide) rfl rfl dX3_addCow_73 ?_
  refine k_aload_n E 0 rfl rfl dX3_addCow_74 ?_
  refine k_get E inX3 0 rfl rfl 4 (by decide) q_679 rfl rfl dX3_addCow_75 ?_
  refine k_iload_n E 1 rfl rfl dX3_addCow_78 ?_
  refine k_dup2 E rfl rfl dX3_addCow_79 ?_
  refine k_iald E (j := j) 4 0 rfl rfl rfl (by omega) (by decide) dX3_addCow_80 ?_
  refine k_steq (st' := [.int (nI cz), .int (nI j), .ref (a 4)]) (by rw [show cows j = nI cz from hc]) ?_
  refine k_iconst E (v := 1) (by decide) dX3_addCow_81 ?_
  refine k_iadd E dX3_addCow_82 ?_
  refine k_steq (st' := [.int (nI (cz + 1)), .int (nI j), .ref (a 4)]) (by rw [show (nI cz) + 1 = nI (cz + 1) from nI_1 cz]) ?_
  refine k_iast (y := nI (cz + 1)) (j := j) (ws' := (wMO k a (nI dy) rooms tanks (upd bests (5 * j + cz) best) (upd cows j (nI (cz + 1))) (nI nf) vrooms inv vsh (nI nv) (kB ub) vis rounds itk farm amount mark ways (nI n) (nI nb) 0)) E 4 0 rfl rfl rfl (by omega) (by decide) rfl rfl dX3_addCow_83 ?_
  refine k_aload_n E 0 rfl rfl dX3_addCow_84 ?_
  refine k_get E inX3 0 rfl rfl 4 (by decide) q_679 rfl rfl dX3_addCow_85 ?_
  refine k_iload_n E 1 rfl rfl dX3_addCow_88 ?_
  refine k_iald E (j := j) 4 0 rfl rfl rfl (by omega) (by decide) dX3_addCow_89 ?_
  exact kw_iret E hr hlk (by simp [upd]) rfl (by decide) (by decide) dX3_addCow_90
set_option maxRecDepth 100000 in
set_option maxHeartbeats 4000000 in
theorem m_X3_addCow_i (l : Launch) (D : va_G) (k : Nat → ClassId) (a : Nat → Nat) (dy : Nat) (rooms : Nat → Int32) (tanks : Nat → Int32) (bests : Nat → Int32) (cows : Nat → Int32) (nf : Nat) (vrooms : Nat → Int32) (inv : Nat → Int32) (vsh : Nat → Int32) (nv : Nat) (ub : Bool) (vis : Nat → Int32) (rounds : Int32) (itk : Int32) (farm : Nat → Int32) (amount : Nat → Int32) (mark : Nat → Int32) (ways : Nat → Int32) (n : Nat) (nb : Nat) (thr : Int32) (fa : Int32) (best : Int32) (hb : fa < 0 ∨ nI nf ≤ fa) (hnf : nf ≤ 6) : mW l yX3_addCow cX3_addCow 3 (some .int) 2 46 0 0 D (kTy k) [.ref (a 0), .int fa, .int best] (wMO k a (nI dy) rooms tanks bests cows (nI nf) vrooms inv vsh (nI nv) (kB ub) vis rounds itk farm amount mark ways (nI n) (nI nb) thr) (some (.int (-1))) (wMO k a (nI dy) rooms tanks bests cows (nI nf) vrooms inv vsh (nI nv) (kB ub) vis rounds itk farm amount mark ways (nI n) (nI nb) 1) := by
  refine mW.of (lv' := [(0, .ref (a 0)), (1, .int fa), (2, .int best)]) (by decide) (Nat.le_of_ble_eq_true rfl) rfl ?_
  intro p e s m args below meth c E hr hlk hm hA
  refine k_aload_n E 0 rfl rfl dX3_addCow_0 ?_
  refine k_aload_n E 0 rfl rfl dX3_addCow_1 ?_
  refine k_iload_n E 1 rfl rfl dX3_addCow_2 ?_
  refine k_callRV [.int fa] E (m_X3_isFarm l D k a dy rooms tanks bests cows nf vrooms inv vsh nv ub vis rounds itk farm amount mark ways n nb thr fa) cf_X3_isFarm q_756 [0, 1, 2, 3, 4, 5, 6, 7, 8, 9, 10, 11, 12] rfl 0 rfl rfl rfl rfl ⟨by decide, by decide⟩ (Nat.le_of_ble_eq_true rfl) ⟨by decide, by decide⟩ dX3_addCow_3 ?_
  refine k_steq (st' := [.int (kB (isR fa nf)), .ref (a 0)]) rfl ?_
  refine k_if_ne E (tgt := 13) (by decide) dX3_addCow_6 (fun c6 => absurd (kB_t c6) (by rw [isR_f hb (by omega)]; decide)) (fun c6 => ?_)
  have c6 := kB_f c6
  refine k_iconst E (v := 1) (by decide) dX3_addCow_9 ?_
  refine k_goto E (tgt := 46) (by decide) dX3_addCow_10 ?_
  refine k_put (ws' := (wMO k a (nI dy) rooms tanks bests cows (nI nf) vrooms inv vsh (nI nv) (kB ub) vis rounds itk farm amount mark ways (nI n) (nI nb) 1)) E inX3 tyX3 tyX3_ok nmX3 0 rfl rfl 20 (by decide) q_695 rfl rfl rfl rfl (Nat.le_of_ble_eq_true rfl) rfl dX3_addCow_46 ?_
  refine k_aload_n E 0 rfl rfl dX3_addCow_49 ?_
  refine k_get E inX3 0 rfl rfl 20 (by decide) q_695 rfl rfl dX3_addCow_50 ?_
  refine k_if_le E (tgt := 58) (by decide) dX3_addCow_53 (fun h => absurd h (by decide)) (fun _ => ?_)
  refine k_iconst E (v := (-1)) (by decide) dX3_addCow_56 ?_
  exact kw_iret E hr hlk rfl rfl (by decide) (by decide) dX3_addCow_57
set_option maxRecDepth 100000 in
set_option maxHeartbeats 4000000 in
theorem m_X3_addCow_a (l : Launch) (D : va_G) (k : Nat → ClassId) (a : Nat → Nat) (dy : Nat) (rooms : Nat → Int32) (tanks : Nat → Int32) (bests : Nat → Int32) (cows : Nat → Int32) (nf : Nat) (vrooms : Nat → Int32) (inv : Nat → Int32) (vsh : Nat → Int32) (nv : Nat) (ub : Bool) (vis : Nat → Int32) (rounds : Int32) (itk : Int32) (farm : Nat → Int32) (amount : Nat → Int32) (mark : Nat → Int32) (ways : Nat → Int32) (n : Nat) (nb : Nat) (thr : Int32) (j : Nat) (best : Int32) (hj : j < nf) (hnf : nf ≤ 6) (hb : best < 5 ∨ 30 < best) : mW l yX3_addCow cX3_addCow 3 (some .int) 2 46 0 0 D (kTy k) [.ref (a 0), .int (nI j), .int best] (wMO k a (nI dy) rooms tanks bests cows (nI nf) vrooms inv vsh (nI nv) (kB ub) vis rounds itk farm amount mark ways (nI n) (nI nb) thr) (some (.int (-1))) (wMO k a (nI dy) rooms tanks bests cows (nI nf) vrooms inv vsh (nI nv) (kB ub) vis rounds itk farm amount mark ways (nI n) (nI nb) 2) := by
  refine mW.of (lv' := [(0, .ref (a 0)), (1, .int (nI j)), (2, .int best)]) (by decide) (Nat.le_of_ble_eq_true rfl) rfl ?_
  intro p e s m args below meth c E hr hlk hm hA
  refine k_aload_n E 0 rfl rfl dX3_addCow_0 ?_
  refine k_aload_n E 0 rfl rfl dX3_addCow_1 ?_
  refine k_iload_n E 1 rfl rfl dX3_addCow_2 ?_
  refine k_callRV [.int (nI j)] E (m_X3_isFarm l D k a dy rooms tanks bests cows nf vrooms inv vsh nv ub vis rounds itk farm amount mark ways n nb thr (nI j)) cf_X3_isFarm q_756 [0, 1, 2, 3, 4, 5, 6, 7, 8, 9, 10, 11, 12] rfl 0 rfl rfl rfl rfl ⟨by decide, by decide⟩ (Nat.le_of_ble_eq_true rfl) ⟨by decide, by decide⟩ dX3_addCow_3 ?_
  refine k_steq (st' := [.int (kB (isR (nI j) nf)), .ref (a 0)]) rfl ?_
  refine k_if_ne E (tgt := 13) (by decide) dX3_addCow_6 (fun c6 => ?_) (fun c6 => absurd (kB_f c6) (by rw [isR_t hj (by omega)]; decide))
  have c6 := kB_t c6
  refine k_iload_n E 2 rfl rfl dX3_addCow_13 ?_
  refine k_i2l E (v := best.toInt64) rfl dX3_addCow_14 ?_
  refine k_ldc2 E (v := 5) q_760 dX3_addCow_15 ?_
  refine k_ldc2 E (v := 30) q_761 dX3_addCow_18 ?_
  refine k_callRS [.long best.toInt64, .long 5, .long 30] E (m_X3_in l D k best.toInt64 5 30) cf_X3_in q_749 [] rfl rfl rfl ⟨by decide, by decide⟩ (Nat.le_of_ble_eq_true rfl) ⟨by decide, by decide⟩ dX3_addCow_21 ?_
  refine k_steq (st' := [.int (kB (inL best.toInt64 5 30)), .ref (a 0)]) rfl ?_
  refine k_if_ne E (tgt := 31) (by decide) dX3_addCow_24 (fun c24 => absurd (kB_t c24) (by rw [inL_f (a := 5) (b := 30) 5 30 (by decide) (by decide) hb]; decide)) (fun c24 => ?_)
  have c24 := kB_f c24
  refine k_iconst E (v := 2) (by decide) dX3_addCow_27 ?_
  refine k_goto E (tgt := 46) (by decide) dX3_addCow_28 ?_
  refine k_put (ws' := (wMO k a (nI dy) rooms tanks bests cows (nI nf) vrooms inv vsh (nI nv) (kB ub) vis rounds itk farm amount mark ways (nI n) (nI nb) 2)) E inX3 tyX3 tyX3_ok nmX3 0 rfl rfl 20 (by decide) q_695 rfl rfl rfl rfl (Nat.le_of_ble_eq_true rfl) rfl dX3_addCow_46 ?_
  refine k_aload_n E 0 rfl rfl dX3_addCow_49 ?_
  refine k_get E inX3 0 rfl rfl 20 (by decide) q_695 rfl rfl dX3_addCow_50 ?_
  refine k_if_le E (tgt := 58) (by decide) dX3_addCow_53 (fun h => absurd h (by decide)) (fun _ => ?_)
  refine k_iconst E (v := (-1)) (by decide) dX3_addCow_56 ?_
  exact kw_iret E hr hlk rfl rfl (by decide) (by decide) dX3_addCow_57
set_option maxRecDepth 100000 in
set_option maxHeartbeats 4000000 in
theorem m_X3_addCow_s (l : Launch) (D : va_G) (k : Nat → ClassId) (a : Nat → Nat) (dy : Nat) (rooms : Nat → Int32) (tanks : Nat → Int32) (bests : Nat → Int32) (cows : Nat → Int32) (nf : Nat) (vrooms : Nat → Int32) (inv : Nat → Int32) (vsh : Nat → Int32) (nv : Nat) (ub : Bool) (vis : Nat → Int32) (rounds : Int32) (itk : Int32) (farm : Nat → Int32) (amount : Nat → Int32) (mark : Nat → Int32) (ways : Nat → Int32) (n : Nat) (nb : Nat) (thr : Int32) (j : Nat) (best : Int32) (cz : Nat) (hj : j < nf) (hnf : nf ≤ 6) (h1 : ¬ best < 5) (h2 : best ≤ 30) (hc : cows j = nI cz) (hc5 : cz = 5) : mW l yX3_addCow cX3_addCow 3 (some .int) 2 46 0 0 D (kTy k) [.ref (a 0), .int (nI j), .int best] (wMO k a (nI dy) rooms tanks bests cows (nI nf) vrooms inv vsh (nI nv) (kB ub) vis rounds itk farm amount mark ways (nI n) (nI nb) thr) (some (.int (-1))) (wMO k a (nI dy) rooms tanks bests cows (nI nf) vrooms inv vsh (nI nv) (kB ub) vis rounds itk farm amount mark ways (nI n) (nI nb) 3) := by
  refine mW.of (lv' := [(0, .ref (a 0)), (1, .int (nI j)), (2, .int best)]) (by decide) (Nat.le_of_ble_eq_true rfl) rfl ?_
  intro p e s m args below meth c E hr hlk hm hA
  refine k_aload_n E 0 rfl rfl dX3_addCow_0 ?_
  refine k_aload_n E 0 rfl rfl dX3_addCow_1 ?_
  refine k_iload_n E 1 rfl rfl dX3_addCow_2 ?_
  refine k_callRV [.int (nI j)] E (m_X3_isFarm l D k a dy rooms tanks bests cows nf vrooms inv vsh nv ub vis rounds itk farm amount mark ways n nb thr (nI j)) cf_X3_isFarm q_756 [0, 1, 2, 3, 4, 5, 6, 7, 8, 9, 10, 11, 12] rfl 0 rfl rfl rfl rfl ⟨by decide, by decide⟩ (Nat.le_of_ble_eq_true rfl) ⟨by decide, by decide⟩ dX3_addCow_3 ?_
  refine k_steq (st' := [.int (kB (isR (nI j) nf)), .ref (a 0)]) rfl ?_
  refine k_if_ne E (tgt := 13) (by decide) dX3_addCow_6 (fun c6 => ?_) (fun c6 => absurd (kB_f c6) (by rw [isR_t hj (by omega)]; decide))
  have c6 := kB_t c6
  refine k_iload_n E 2 rfl rfl dX3_addCow_13 ?_
  refine k_i2l E (v := best.toInt64) rfl dX3_addCow_14 ?_
  refine k_ldc2 E (v := 5) q_760 dX3_addCow_15 ?_
  refine k_ldc2 E (v := 30) q_761 dX3_addCow_18 ?_
  refine k_callRS [.long best.toInt64, .long 5, .long 30] E (m_X3_in l D k best.toInt64 5 30) cf_X3_in q_749 [] rfl rfl rfl ⟨by decide, by decide⟩ (Nat.le_of_ble_eq_true rfl) ⟨by decide, by decide⟩ dX3_addCow_21 ?_
  refine k_steq (st' := [.int (kB (inL best.toInt64 5 30)), .ref (a 0)]) rfl ?_
  refine k_if_ne E (tgt := 31) (by decide) dX3_addCow_24 (fun c24 => ?_) (fun c24 => absurd (kB_f c24) (by rw [inL_t (a := 5) (b := 30) 5 30 (by decide) (by decide) h1 h2]; decide))
  have c24 := kB_t c24
  refine k_aload_n E 0 rfl rfl dX3_addCow_31 ?_
  refine k_get E inX3 0 rfl rfl 4 (by decide) q_679 rfl rfl dX3_addCow_32 ?_
  refine k_iload_n E 1 rfl rfl dX3_addCow_35 ?_
  refine k_iald E (j := j) 4 0 rfl rfl rfl (by omega) (by decide) dX3_addCow_36 ?_
  refine k_steq (st' := [.int (nI cz), .ref (a 0)]) (by rw [show cows j = nI cz from hc]) ?_
  refine k_iconst E (v := 5) (by decide) dX3_addCow_37 ?_
  refine k_icmp_ne E (tgt := 45) (by decide) dX3_addCow_38 (fun c38 => absurd ((not_congr (nI_eq (a := cz) (b := 5) (by omega) (by omega))).mp c38) (by omega)) (fun c38 => ?_)
  have c38 := (nI_eq (a := cz) (b := 5) (by omega) (by omega)).mp c38
  refine k_iconst E (v := 3) (by decide) dX3_addCow_41 ?_
  refine k_goto E (tgt := 46) (by decide) dX3_addCow_42 ?_
  refine k_put (ws' := (wMO k a (nI dy) rooms tanks bests cows (nI nf) vrooms inv vsh (nI nv) (kB ub) vis rounds itk farm amount mark ways (nI n) (nI nb) 3)) E inX3 tyX3 tyX3_ok nmX3 0 rfl rfl 20 (by decide) q_695 rfl rfl rfl rfl (Nat.le_of_ble_eq_true rfl) rfl dX3_addCow_46 ?_
  refine k_aload_n E 0 rfl rfl dX3_addCow_49 ?_
  refine k_get E inX3 0 rfl rfl 20 (by decide) q_695 rfl rfl dX3_addCow_50 ?_
  refine k_if_le E (tgt := 58) (by decide) dX3_addCow_53 (fun h => absurd h (by decide)) (fun _ => ?_)
  refine k_iconst E (v := (-1)) (by decide) dX3_addCow_56 ?_
  exact kw_iret E hr hlk rfl rfl (by decide) (by decide) dX3_addCow_57
set_option maxRecDepth 100000 in
set_option maxHeartbeats 4000000 in
theorem m_X3_milkOf (l : Launch) (D : va_G) (k : Nat → ClassId) (a : Nat → Nat) (dy : Nat) (rooms : Nat → Int32) (tanks : Nat → Int32) (bests : Nat → Int32) (cows : Nat → Int32) (nf : Nat) (vrooms : Nat → Int32) (inv : Nat → Int32) (vsh : Nat → Int32) (nv : Nat) (ub : Bool) (vis : Nat → Int32) (rounds : Int32) (itk : Int32) (farm : Nat → Int32) (amount : Nat → Int32) (mark : Nat → Int32) (ways : Nat → Int32) (n : Nat) (nb : Nat) (thr : Int32) (j : Nat) (dz : Int32) (cz : Nat) (hj : j < nf) (hnf : nf ≤ 6) (h1 : ¬ dz < 0) (h2 : dz ≤ 999) (hc : cows j = nI cz) (hc5 : cz ≤ 5) : mW l yX3_milkOf cX3_milkOf 5 (some .int) 2 46 0 0 D (kTy k) [.ref (a 0), .int (nI j), .int dz] (wMO k a (nI dy) rooms tanks bests cows (nI nf) vrooms inv vsh (nI nv) (kB ub) vis rounds itk farm amount mark ways (nI n) (nI nb) thr) (some (.int (milkF (brow bests j) dz cz))) (wMO k a (nI dy) rooms tanks bests cows (nI nf) vrooms inv vsh (nI nv) (kB ub) vis rounds itk farm amount mark ways (nI n) (nI nb) 0) := by
  refine mW.of (lv' := [(0, .ref (a 0)), (1, .int (nI j)), (2, .int dz)]) (by decide) (Nat.le_of_ble_eq_true rfl) rfl ?_
  intro p e s m args below meth c E hr hlk hm hA
  refine k_aload_n E 0 rfl rfl dX3_milkOf_0 ?_
  refine k_aload_n E 0 rfl rfl dX3_milkOf_1 ?_
  refine k_iload_n E 1 rfl rfl dX3_milkOf_2 ?_
  refine k_callRV [.int (nI j)] E (m_X3_isFarm l D k a dy rooms tanks bests cows nf vrooms inv vsh nv ub vis rounds itk farm amount mark ways n nb thr (nI j)) cf_X3_isFarm q_756 [0, 1, 2, 3, 4, 5, 6, 7, 8, 9, 10, 11, 12] rfl 0 rfl rfl rfl rfl ⟨by decide, by decide⟩ (Nat.le_of_ble_eq_true rfl) ⟨by decide, by decide⟩ dX3_milkOf_3 ?_
  refine k_steq (st' := [.int (kB (isR (nI j) nf)), .ref (a 0)]) rfl ?_
  refine k_if_ne E (tgt := 13) (by decide) dX3_milkOf_6 (fun c6 => ?_) (fun c6 => absurd (kB_f c6) (by rw [isR_t hj (by omega)]; decide))
  have c6 := kB_t c6
  refine k_iload_n E 2 rfl rfl dX3_milkOf_13 ?_
  refine k_i2l E (v := dz.toInt64) rfl dX3_milkOf_14 ?_
  refine k_lconst E (v := 0) (by decide) dX3_milkOf_15 ?_
  refine k_ldc2 E (v := 999) q_766 dX3_milkOf_16 ?_
  refine k_callRS [.long dz.toInt64, .long 0, .long 999] E (m_X3_in l D k dz.toInt64 0 999) cf_X3_in q_749 [] rfl rfl rfl ⟨by decide, by decide⟩ (Nat.le_of_ble_eq_true rfl) ⟨by decide, by decide⟩ dX3_milkOf_19 ?_
  refine k_steq (st' := [.int (kB (inL dz.toInt64 0 999)), .ref (a 0)]) rfl ?_
  refine k_if_ne E (tgt := 29) (by decide) dX3_milkOf_22 (fun c22 => ?_) (fun c22 => absurd (kB_f c22) (by rw [inL_t (a := 0) (b := 999) 0 999 (by decide) (by decide) h1 h2]; decide))
  have c22 := kB_t c22
  refine k_iconst E (v := 0) (by decide) dX3_milkOf_29 ?_
  refine k_put (ws' := (wMO k a (nI dy) rooms tanks bests cows (nI nf) vrooms inv vsh (nI nv) (kB ub) vis rounds itk farm amount mark ways (nI n) (nI nb) 0)) E inX3 tyX3 tyX3_ok nmX3 0 rfl rfl 20 (by decide) q_695 rfl rfl rfl rfl (Nat.le_of_ble_eq_true rfl) rfl dX3_milkOf_30 ?_
  refine k_aload_n E 0 rfl rfl dX3_milkOf_33 ?_
  refine k_get E inX3 0 rfl rfl 20 (by decide) q_695 rfl rfl dX3_milkOf_34 ?_
  refine k_if_ne E (tgt := 44) (by decide) dX3_milkOf_37 (fun h => absurd (by decide) h) (fun _ => ?_)
  refine k_iconst E (v := 0) (by decide) dX3_milkOf_40 ?_
  refine k_goto E (tgt := 45) (by decide) dX3_milkOf_41 ?_
  refine k_istore_n (lv' := [(3, .int 0), (0, .ref (a 0)), (1, .int (nI j)), (2, .int dz)]) E rfl (by decide) rfl dX3_milkOf_45 ?_
  refine k_iconst E (v := 0) (by decide) dX3_milkOf_46 ?_
  refine k_istore (lv' := [(4, .int 0), (3, .int 0), (0, .ref (a 0)), (1, .int (nI j)), (2, .int dz)]) E (by decide) rfl dX3_milkOf_47 ?_
  have L49 : ∀ (dn49 : Nat) (i : Nat) (x : Int32), i + dn49 = cz → (x = milkF (brow bests j) dz i) → kJ p l e (kRmc 2 46 0 0) s m args below meth c (gW D (va_A (wMO k a (nI dy) rooms tanks bests cows (nI nf) vrooms inv vsh (nI nv) (kB ub) vis rounds itk farm amount mark ways (nI n) (nI nb) thr) s.heap.size) s.heap) 5 0 0 (MQ below (kQw (some (.int (milkF (brow bests j) dz cz))) D (wMO k a (nI dy) rooms tanks bests cows (nI nf) vrooms inv vsh (nI nv) (kB ub) vis rounds itk farm amount mark ways (nI n) (nI nb) thr) (wMO k a (nI dy) rooms tanks bests cows (nI nf) vrooms inv vsh (nI nv) (kB ub) vis rounds itk farm amount mark ways (nI n) (nI nb) 0) s.heap.size) args s 0 0 (va_A (wMO k a (nI dy) rooms tanks bests cows (nI nf) vrooms inv vsh (nI nv) (kB ub) vis rounds itk farm amount mark ways (nI n) (nI nb) thr) s.heap.size)) (wMO k a (nI dy) rooms tanks bests cows (nI nf) vrooms inv vsh (nI nv) (kB ub) vis rounds itk farm amount mark ways (nI n) (nI nb) 0) 49 [(0, .ref (a 0)), (1, .int (nI j)), (2, .int dz), (3, .int x), (4, .int (nI i))] [] := by
    intro dn49
    induction dn49 with
    | zero =>
      intro i x hd49 hx
      refine k_aload_n E 0 rfl rfl dX3_milkOf_49 ?_
      refine k_get E inX3 0 rfl rfl 20 (by decide) q_695 rfl rfl dX3_milkOf_50 ?_
      refine k_if_ne E (tgt := 91) (by decide) dX3_milkOf_53 (fun h => absurd (by decide) h) (fun _ => ?_)
      refine k_iload E 4 rfl dX3_milkOf_56 ?_
      refine k_aload_n E 0 rfl rfl dX3_milkOf_58 ?_
      refine k_get E inX3 0 rfl rfl 4 (by decide) q_679 rfl rfl dX3_milkOf_59 ?_
      refine k_iload_n E 1 rfl rfl dX3_milkOf_62 ?_
      refine k_iald E (j := j) 4 0 rfl rfl rfl (by omega) (by decide) dX3_milkOf_63 ?_
      refine k_steq (st' := [.int (nI cz), .int (nI i)]) (by rw [show cows j = nI cz from hc]) ?_
      refine k_icmp_ge E (tgt := 91) (by decide) dX3_milkOf_64 (fun c64 => ?_) (fun c64 => absurd ((not_congr (nI_leI (a := cz) (b := i) (by omega) (by omega))).mp c64) (by omega))
      have c64 := (nI_leI (a := cz) (b := i) (by omega) (by omega)).mp c64
      refine k_iload_n E 3 rfl rfl dX3_milkOf_91 ?_
      exact kw_iret E hr hlk (by rw [hx, show i = cz by omega]) rfl (by decide) (by decide) dX3_milkOf_92
    | succ dn49 ih49 =>
      intro i x hd49 hx
      refine k_aload_n E 0 rfl rfl dX3_milkOf_49 ?_
      refine k_get E inX3 0 rfl rfl 20 (by decide) q_695 rfl rfl dX3_milkOf_50 ?_
      refine k_if_ne E (tgt := 91) (by decide) dX3_milkOf_53 (fun h => absurd (by decide) h) (fun _ => ?_)
      refine k_iload E 4 rfl dX3_milkOf_56 ?_
      refine k_aload_n E 0 rfl rfl dX3_milkOf_58 ?_
      refine k_get E inX3 0 rfl rfl 4 (by decide) q_679 rfl rfl dX3_milkOf_59 ?_
      refine k_iload_n E 1 rfl rfl dX3_milkOf_62 ?_
      refine k_iald E (j := j) 4 0 rfl rfl rfl (by omega) (by decide) dX3_milkOf_63 ?_
      refine k_steq (st' := [.int (nI cz), .int (nI i)]) (by rw [show cows j = nI cz from hc]) ?_
      refine k_icmp_ge E (tgt := 91) (by decide) dX3_milkOf_64 (fun c64 => absurd ((nI_leI (a := cz) (b := i) (by omega) (by omega)).mp c64) (by omega)) (fun c64 => ?_)
      have c64 := (not_congr (nI_leI (a := cz) (b := i) (by omega) (by omega))).mp c64
      refine k_iload_n E 3 rfl rfl dX3_milkOf_67 ?_
      refine k_aload_n E 0 rfl rfl dX3_milkOf_68 ?_
      refine k_get E inX3 0 rfl rfl 3 (by decide) q_678 rfl rfl dX3_milkOf_69 ?_
      refine k_iconst E (v := 5) (by decide) dX3_milkOf_72 ?_
      refine k_iload_n E 1 rfl rfl dX3_milkOf_73 ?_
      refine k_imul E dX3_milkOf_74 ?_
      refine k_steq (st' := [.int (nI (5 * j)), .ref (a 3), .int x]) (by rw [show 5 * (nI j) = nI (5 * j) from pk_mul 5 j]) ?_
      refine k_iload E 4 rfl dX3_milkOf_75 ?_
      refine k_iadd E dX3_milkOf_77 ?_
      refine k_steq (st' := [.int (nI (5 * j + i)), .ref (a 3), .int x]) (by rw [show (nI (5 * j)) + (nI i) = nI (5 * j + i) from nI_add _ _]) ?_
      refine k_iald E (j := (5 * j + i)) 3 0 rfl rfl rfl (by omega) (by decide) dX3_milkOf_78 ?_
      refine k_iload_n E 2 rfl rfl dX3_milkOf_79 ?_
      refine k_callRS [.int (bests (5 * j + i)), .int dz] E (m_X3_gives l D k (bests (5 * j + i)) dz) cf_X3_gives q_767 [] rfl rfl rfl ⟨by decide, by decide⟩ (Nat.le_of_ble_eq_true rfl) ⟨by decide, by decide⟩ dX3_milkOf_80 ?_
      refine k_steq (st' := [.int (milkC (bests (5 * j + i)) dz), .int x]) rfl ?_
      refine k_iadd E dX3_milkOf_83 ?_
      refine k_istore_n (lv' := [(3, .int (x + (milkC (bests (5 * j + i)) dz))), (0, .ref (a 0)), (1, .int (nI j)), (2, .int dz), (4, .int (nI i))]) E rfl (by decide) rfl dX3_milkOf_84 ?_
      refine k_iinc (q := 4) (v := nI (i + 1)) (lv' := [(4, .int (nI (i + 1))), (3, .int (x + (milkC (bests (5 * j + i)) dz))), (0, .ref (a 0)), (1, .int (nI j)), (2, .int dz)]) E rfl (nI_inc _) (by decide) rfl dX3_milkOf_85 ?_
      refine k_goto E (tgt := 49) (by decide) dX3_milkOf_88 ?_
      refine k_lv [2, 3, 4, 1, 0] rfl ?_
      exact ih49 (i + 1) (x + (milkC (bests (5 * j + i)) dz)) (by omega) (by rw [hx]; simp [milkF, sI, brow])
  refine k_lv [2, 3, 4, 1, 0] rfl ?_
  exact L49 (cz - 0) 0 0 (by omega) rfl
set_option maxRecDepth 100000 in
set_option maxHeartbeats 4000000 in
theorem m_X3_milkOf_i (l : Launch) (D : va_G) (k : Nat → ClassId) (a : Nat → Nat) (dy : Nat) (rooms : Nat → Int32) (tanks : Nat → Int32) (bests : Nat → Int32) (cows : Nat → Int32) (nf : Nat) (vrooms : Nat → Int32) (inv : Nat → Int32) (vsh : Nat → Int32) (nv : Nat) (ub : Bool) (vis : Nat → Int32) (rounds : Int32) (itk : Int32) (farm : Nat → Int32) (amount : Nat → Int32) (mark : Nat → Int32) (ways : Nat → Int32) (n : Nat) (nb : Nat) (thr : Int32) (fa : Int32) (dz : Int32) (hb : fa < 0 ∨ nI nf ≤ fa) (hnf : nf ≤ 6) : mW l yX3_milkOf cX3_milkOf 5 (some .int) 2 46 0 0 D (kTy k) [.ref (a 0), .int fa, .int dz] (wMO k a (nI dy) rooms tanks bests cows (nI nf) vrooms inv vsh (nI nv) (kB ub) vis rounds itk farm amount mark ways (nI n) (nI nb) thr) (some (.int (-1))) (wMO k a (nI dy) rooms tanks bests cows (nI nf) vrooms inv vsh (nI nv) (kB ub) vis rounds itk farm amount mark ways (nI n) (nI nb) 1) := by
  refine mW.of (lv' := [(0, .ref (a 0)), (1, .int fa), (2, .int dz)]) (by decide) (Nat.le_of_ble_eq_true rfl) rfl ?_
  intro p e s m args below meth c E hr hlk hm hA
  refine k_aload_n E 0 rfl rfl dX3_milkOf_0 ?_
  refine k_aload_n E 0 rfl rfl dX3_milkOf_1 ?_
  refine k_iload_n E 1 rfl rfl dX3_milkOf_2 ?_
  refine k_callRV [.int fa] E (m_X3_isFarm l D k a dy rooms tanks bests cows nf vrooms inv vsh nv ub vis rounds itk farm amount mark ways n nb thr fa) cf_X3_isFarm q_756 [0, 1, 2, 3, 4, 5, 6, 7, 8, 9, 10, 11, 12] rfl 0 rfl rfl rfl rfl ⟨by decide, by decide⟩ (Nat.le_of_ble_eq_true rfl) ⟨by decide, by decide⟩ dX3_milkOf_3 ?_
  refine k_steq (st' := [.int (kB (isR fa nf)), .ref (a 0)]) rfl ?_
  refine k_if_ne E (tgt := 13) (by decide) dX3_milkOf_6 (fun c6 => absurd (kB_t c6) (by rw [isR_f hb (by omega)]; decide)) (fun c6 => ?_)
  have c6 := kB_f c6
  refine k_iconst E (v := 1) (by decide) dX3_milkOf_9 ?_
  refine k_goto E (tgt := 30) (by decide) dX3_milkOf_10 ?_
  refine k_put (ws' := (wMO k a (nI dy) rooms tanks bests cows (nI nf) vrooms inv vsh (nI nv) (kB ub) vis rounds itk farm amount mark ways (nI n) (nI nb) 1)) E inX3 tyX3 tyX3_ok nmX3 0 rfl rfl 20 (by decide) q_695 rfl rfl rfl rfl (Nat.le_of_ble_eq_true rfl) rfl dX3_milkOf_30 ?_
  refine k_aload_n E 0 rfl rfl dX3_milkOf_33 ?_
  refine k_get E inX3 0 rfl rfl 20 (by decide) q_695 rfl rfl dX3_milkOf_34 ?_
  refine k_if_ne E (tgt := 44) (by decide) dX3_milkOf_37 (fun _ => ?_) (fun h => absurd h (by decide))
  refine k_iconst E (v := (-1)) (by decide) dX3_milkOf_44 ?_
  refine k_istore_n (lv' := [(3, .int (-1)), (0, .ref (a 0)), (1, .int fa), (2, .int dz)]) E rfl (by decide) rfl dX3_milkOf_45 ?_
  refine k_iconst E (v := 0) (by decide) dX3_milkOf_46 ?_
  refine k_istore (lv' := [(4, .int 0), (3, .int (-1)), (0, .ref (a 0)), (1, .int fa), (2, .int dz)]) E (by decide) rfl dX3_milkOf_47 ?_
  refine k_aload_n E 2 rfl rfl dX3_milkOf_49 ?_
  refine k_get E inX3 0 rfl rfl 20 (by decide) q_695 rfl rfl dX3_milkOf_50 ?_
  refine k_if_ne E (tgt := 91) (by decide) dX3_milkOf_53 (fun _ => ?_) (fun h => absurd h (by decide))
  refine k_iload_n E 1 rfl rfl dX3_milkOf_91 ?_
  exact kw_iret E hr hlk rfl rfl (by decide) (by decide) dX3_milkOf_92
set_option maxRecDepth 100000 in
set_option maxHeartbeats 4000000 in
theorem m_X3_milkOf_a (l : Launch) (D : va_G) (k : Nat → ClassId) (a : Nat → Nat) (dy : Nat) (rooms : Nat → Int32) (tanks : Nat → Int32) (bests : Nat → Int32) (cows : Nat → Int32) (nf : Nat) (vrooms : Nat → Int32) (inv : Nat → Int32) (vsh : Nat → Int32) (nv : Nat) (ub : Bool) (vis : Nat → Int32) (rounds : Int32) (itk : Int32) (farm : Nat → Int32) (amount : Nat → Int32) (mark : Nat → Int32) (ways : Nat → Int32) (n : Nat) (nb : Nat) (thr : Int32) (j : Nat) (dz : Int32) (hj : j < nf) (hnf : nf ≤ 6) (hb : dz < 0 ∨ 999 < dz) : mW l yX3_milkOf cX3_milkOf 5 (some .int) 2 46 0 0 D (kTy k) [.ref (a 0), .int (nI j), .int dz] (wMO k a (nI dy) rooms tanks bests cows (nI nf) vrooms inv vsh (nI nv) (kB ub) vis rounds itk farm amount mark ways (nI n) (nI nb) thr) (some (.int (-1))) (wMO k a (nI dy) rooms tanks bests cows (nI nf) vrooms inv vsh (nI nv) (kB ub) vis rounds itk farm amount mark ways (nI n) (nI nb) 2) := by
  refine mW.of (lv' := [(0, .ref (a 0)), (1, .int (nI j)), (2, .int dz)]) (by decide) (Nat.le_of_ble_eq_true rfl) rfl ?_
  intro p e s m args below meth c E hr hlk hm hA
  refine k_aload_n E 0 rfl rfl dX3_milkOf_0 ?_
  refine k_aload_n E 0 rfl rfl dX3_milkOf_1 ?_
  refine k_iload_n E 1 rfl rfl dX3_milkOf_2 ?_
  refine k_callRV [.int (nI j)] E (m_X3_isFarm l D k a dy rooms tanks bests cows nf vrooms inv vsh nv ub vis rounds itk farm amount mark ways n nb thr (nI j)) cf_X3_isFarm q_756 [0, 1, 2, 3, 4, 5, 6, 7, 8, 9, 10, 11, 12] rfl 0 rfl rfl rfl rfl ⟨by decide, by decide⟩ (Nat.le_of_ble_eq_true rfl) ⟨by decide, by decide⟩ dX3_milkOf_3 ?_
  refine k_steq (st' := [.int (kB (isR (nI j) nf)), .ref (a 0)]) rfl ?_
  refine k_if_ne E (tgt := 13) (by decide) dX3_milkOf_6 (fun c6 => ?_) (fun c6 => absurd (kB_f c6) (by rw [isR_t hj (by omega)]; decide))
  have c6 := kB_t c6
  refine k_iload_n E 2 rfl rfl dX3_milkOf_13 ?_
  refine k_i2l E (v := dz.toInt64) rfl dX3_milkOf_14 ?_
  refine k_lconst E (v := 0) (by decide) dX3_milkOf_15 ?_
  refine k_ldc2 E (v := 999) q_766 dX3_milkOf_16 ?_
  refine k_callRS [.long dz.toInt64, .long 0, .long 999] E (m_X3_in l D k dz.toInt64 0 999) cf_X3_in q_749 [] rfl rfl rfl ⟨by decide, by decide⟩ (Nat.le_of_ble_eq_true rfl) ⟨by decide, by decide⟩ dX3_milkOf_19 ?_
  refine k_steq (st' := [.int (kB (inL dz.toInt64 0 999)), .ref (a 0)]) rfl ?_
  refine k_if_ne E (tgt := 29) (by decide) dX3_milkOf_22 (fun c22 => absurd (kB_t c22) (by rw [inL_f (a := 0) (b := 999) 0 999 (by decide) (by decide) hb]; decide)) (fun c22 => ?_)
  have c22 := kB_f c22
  refine k_iconst E (v := 2) (by decide) dX3_milkOf_25 ?_
  refine k_goto E (tgt := 30) (by decide) dX3_milkOf_26 ?_
  refine k_put (ws' := (wMO k a (nI dy) rooms tanks bests cows (nI nf) vrooms inv vsh (nI nv) (kB ub) vis rounds itk farm amount mark ways (nI n) (nI nb) 2)) E inX3 tyX3 tyX3_ok nmX3 0 rfl rfl 20 (by decide) q_695 rfl rfl rfl rfl (Nat.le_of_ble_eq_true rfl) rfl dX3_milkOf_30 ?_
  refine k_aload_n E 0 rfl rfl dX3_milkOf_33 ?_
  refine k_get E inX3 0 rfl rfl 20 (by decide) q_695 rfl rfl dX3_milkOf_34 ?_
  refine k_if_ne E (tgt := 44) (by decide) dX3_milkOf_37 (fun _ => ?_) (fun h => absurd h (by decide))
  refine k_iconst E (v := (-1)) (by decide) dX3_milkOf_44 ?_
  refine k_istore_n (lv' := [(3, .int (-1)), (0, .ref (a 0)), (1, .int (nI j)), (2, .int dz)]) E rfl (by decide) rfl dX3_milkOf_45 ?_
  refine k_iconst E (v := 0) (by decide) dX3_milkOf_46 ?_
  refine k_istore (lv' := [(4, .int 0), (3, .int (-1)), (0, .ref (a 0)), (1, .int (nI j)), (2, .int dz)]) E (by decide) rfl dX3_milkOf_47 ?_
  refine k_aload_n E 2 rfl rfl dX3_milkOf_49 ?_
  refine k_get E inX3 0 rfl rfl 20 (by decide) q_695 rfl rfl dX3_milkOf_50 ?_
  refine k_if_ne E (tgt := 91) (by decide) dX3_milkOf_53 (fun _ => ?_) (fun h => absurd h (by decide))
  refine k_iload_n E 1 rfl rfl dX3_milkOf_91 ?_
  exact kw_iret E hr hlk rfl rfl (by decide) (by decide) dX3_milkOf_92
set_option maxRecDepth 100000 in
set_option maxHeartbeats 4000000 in
theorem m_X3_inTank (l : Launch) (D : va_G) (k : Nat → ClassId) (a : Nat → Nat) (dy : Nat) (rooms : Nat → Int32) (tanks : Nat → Int32) (bests : Nat → Int32) (cows : Nat → Int32) (nf : Nat) (vrooms : Nat → Int32) (inv : Nat → Int32) (vsh : Nat → Int32) (nv : Nat) (ub : Bool) (vis : Nat → Int32) (rounds : Int32) (itk : Int32) (farm : Nat → Int32) (amount : Nat → Int32) (mark : Nat → Int32) (ways : Nat → Int32) (n : Nat) (nb : Nat) (thr : Int32) (j : Nat) (hj : j < nf) (hnf : nf ≤ 6) : mW l yX3_inTank cX3_inTank 2 (some .int) 2 46 0 0 D (kTy k) [.ref (a 0), .int (nI j)] (wMO k a (nI dy) rooms tanks bests cows (nI nf) vrooms inv vsh (nI nv) (kB ub) vis rounds itk farm amount mark ways (nI n) (nI nb) thr) (some (.int (tanks j))) (wMO k a (nI dy) rooms tanks bests cows (nI nf) vrooms inv vsh (nI nv) (kB ub) vis rounds itk farm amount mark ways (nI n) (nI nb) 0) := by
  refine mW.of (lv' := [(0, .ref (a 0)), (1, .int (nI j))]) (by decide) (Nat.le_of_ble_eq_true rfl) rfl ?_
  intro p e s m args below meth c E hr hlk hm hA
  refine k_aload_n E 0 rfl rfl dX3_inTank_0 ?_
  refine k_aload_n E 0 rfl rfl dX3_inTank_1 ?_
  refine k_iload_n E 1 rfl rfl dX3_inTank_2 ?_
  refine k_callRV [.int (nI j)] E (m_X3_isFarm l D k a dy rooms tanks bests cows nf vrooms inv vsh nv ub vis rounds itk farm amount mark ways n nb thr (nI j)) cf_X3_isFarm q_756 [0, 1, 2, 3, 4, 5, 6, 7, 8, 9, 10, 11, 12] rfl 0 rfl rfl rfl rfl ⟨by decide, by decide⟩ (Nat.le_of_ble_eq_true rfl) ⟨by decide, by decide⟩ dX3_inTank_3 ?_
  refine k_steq (st' := [.int (kB (isR (nI j) nf)), .ref (a 0)]) rfl ?_
  refine k_if_eq E (tgt := 13) (by decide) dX3_inTank_6 (fun c6 => absurd (kB_f c6) (by rw [isR_t hj (by omega)]; decide)) (fun c6 => ?_)
  have c6 := kB_t c6
  refine k_iconst E (v := 0) (by decide) dX3_inTank_9 ?_
  refine k_goto E (tgt := 14) (by decide) dX3_inTank_10 ?_
  refine k_put (ws' := (wMO k a (nI dy) rooms tanks bests cows (nI nf) vrooms inv vsh (nI nv) (kB ub) vis rounds itk farm amount mark ways (nI n) (nI nb) 0)) E inX3 tyX3 tyX3_ok nmX3 0 rfl rfl 20 (by decide) q_695 rfl rfl rfl rfl (Nat.le_of_ble_eq_true rfl) rfl dX3_inTank_14 ?_
  refine k_aload_n E 0 rfl rfl dX3_inTank_17 ?_
  refine k_get E inX3 0 rfl rfl 20 (by decide) q_695 rfl rfl dX3_inTank_18 ?_
  refine k_if_ne E (tgt := 33) (by decide) dX3_inTank_21 (fun h => absurd (by decide) h) (fun _ => ?_)
  refine k_aload_n E 0 rfl rfl dX3_inTank_24 ?_
  refine k_get E inX3 0 rfl rfl 2 (by decide) q_677 rfl rfl dX3_inTank_25 ?_
  refine k_iload_n E 1 rfl rfl dX3_inTank_28 ?_
  refine k_iald E (j := j) 2 0 rfl rfl rfl (by omega) (by decide) dX3_inTank_29 ?_
  refine k_goto E (tgt := 34) (by decide) dX3_inTank_30 ?_
  exact kw_iret E hr hlk rfl rfl (by decide) (by decide) dX3_inTank_34
set_option maxRecDepth 100000 in
set_option maxHeartbeats 4000000 in
theorem m_X3_inTank_i (l : Launch) (D : va_G) (k : Nat → ClassId) (a : Nat → Nat) (dy : Nat) (rooms : Nat → Int32) (tanks : Nat → Int32) (bests : Nat → Int32) (cows : Nat → Int32) (nf : Nat) (vrooms : Nat → Int32) (inv : Nat → Int32) (vsh : Nat → Int32) (nv : Nat) (ub : Bool) (vis : Nat → Int32) (rounds : Int32) (itk : Int32) (farm : Nat → Int32) (amount : Nat → Int32) (mark : Nat → Int32) (ways : Nat → Int32) (n : Nat) (nb : Nat) (thr : Int32) (fa : Int32) (hb : fa < 0 ∨ nI nf ≤ fa) (hnf : nf ≤ 6) : mW l yX3_inTank cX3_inTank 2 (some .int) 2 46 0 0 D (kTy k) [.ref (a 0), .int fa] (wMO k a (nI dy) rooms tanks bests cows (nI nf) vrooms inv vsh (nI nv) (kB ub) vis rounds itk farm amount mark ways (nI n) (nI nb) thr) (some (.int (-1))) (wMO k a (nI dy) rooms tanks bests cows (nI nf) vrooms inv vsh (nI nv) (kB ub) vis rounds itk farm amount mark ways (nI n) (nI nb) 1) := by
  refine mW.of (lv' := [(0, .ref (a 0)), (1, .int fa)]) (by decide) (Nat.le_of_ble_eq_true rfl) rfl ?_
  intro p e s m args below meth c E hr hlk hm hA
  refine k_aload_n E 0 rfl rfl dX3_inTank_0 ?_
  refine k_aload_n E 0 rfl rfl dX3_inTank_1 ?_
  refine k_iload_n E 1 rfl rfl dX3_inTank_2 ?_
  refine k_callRV [.int fa] E (m_X3_isFarm l D k a dy rooms tanks bests cows nf vrooms inv vsh nv ub vis rounds itk farm amount mark ways n nb thr fa) cf_X3_isFarm q_756 [0, 1, 2, 3, 4, 5, 6, 7, 8, 9, 10, 11, 12] rfl 0 rfl rfl rfl rfl ⟨by decide, by decide⟩ (Nat.le_of_ble_eq_true rfl) ⟨by decide, by decide⟩ dX3_inTank_3 ?_
  refine k_steq (st' := [.int (kB (isR fa nf)), .ref (a 0)]) rfl ?_
  refine k_if_eq E (tgt := 13) (by decide) dX3_inTank_6 (fun c6 => ?_) (fun c6 => absurd (kB_t c6) (by rw [isR_f hb (by omega)]; decide))
  have c6 := kB_f c6
  refine k_iconst E (v := 1) (by decide) dX3_inTank_13 ?_
  refine k_put (ws' := (wMO k a (nI dy) rooms tanks bests cows (nI nf) vrooms inv vsh (nI nv) (kB ub) vis rounds itk farm amount mark ways (nI n) (nI nb) 1)) E inX3 tyX3 tyX3_ok nmX3 0 rfl rfl 20 (by decide) q_695 rfl rfl rfl rfl (Nat.le_of_ble_eq_true rfl) rfl dX3_inTank_14 ?_
  refine k_aload_n E 0 rfl rfl dX3_inTank_17 ?_
  refine k_get E inX3 0 rfl rfl 20 (by decide) q_695 rfl rfl dX3_inTank_18 ?_
  refine k_if_ne E (tgt := 33) (by decide) dX3_inTank_21 (fun _ => ?_) (fun h => absurd h (by decide))
  refine k_iconst E (v := (-1)) (by decide) dX3_inTank_33 ?_
  exact kw_iret E hr hlk rfl rfl (by decide) (by decide) dX3_inTank_34
set_option maxRecDepth 100000 in
set_option maxHeartbeats 4000000 in
theorem m_X3_pass (l : Launch) (D : va_G) (k : Nat → ClassId) (a : Nat → Nat) (dy : Nat) (rooms : Nat → Int32) (tanks : Nat → Int32) (bests : Nat → Int32) (cows : Nat → Int32) (nf : Nat) (vrooms : Nat → Int32) (inv : Nat → Int32) (vsh : Nat → Int32) (nv : Nat) (ub : Bool) (vis : Nat → Int32) (rounds : Int32) (itk : Int32) (farm : Nat → Int32) (amount : Nat → Int32) (mark : Nat → Int32) (ways : Nat → Int32) (n : Nat) (nb : Nat) (thr : Int32) (t0 : Nat) (cw : Nat → Nat) (hnf : nf ≤ 6) (h1 : 1 ≤ t0) (h2 : t0 ≤ 30) (h3 : dy + t0 ≤ 999) (hcw : ∀ i, i < nf → cows i = nI (cw i) ∧ cw i ≤ 5) : mW l yX3_pass cX3_pass 9 (some .int) 1 25 0 0 D (kTy k) [.ref (a 0), .int (nI t0)] (wMO k a (nI dy) rooms tanks bests cows (nI nf) vrooms inv vsh (nI nv) (kB ub) vis rounds itk farm amount mark ways (nI n) (nI nb) thr) (some (.int (poN rooms tanks bests cw dy nf t0))) (wMO k a (nI (dy + t0)) rooms (tkN rooms tanks bests cw dy nf t0) bests cows (nI nf) vrooms inv vsh (nI nv) (kB ub) vis rounds itk farm amount mark ways (nI n) (nI nb) 0) := by
  refine mW.of (lv' := [(0, .ref (a 0)), (1, .int (nI t0))]) (by decide) (Nat.le_of_ble_eq_true rfl) rfl ?_
  intro p e s m args below meth c E hr hlk hm hA
  refine k_aload_n E 0 rfl rfl dX3_pass_0 ?_
  refine k_iload_n E 1 rfl rfl dX3_pass_1 ?_
  refine k_i2l E (v := (nI t0).toInt64) rfl dX3_pass_2 ?_
  refine k_lconst E (v := 1) (by decide) dX3_pass_3 ?_
  refine k_ldc2 E (v := 30) q_761 dX3_pass_4 ?_
  refine k_callRS [.long ((nI t0).toInt64), .long 1, .long 30] E (m_X3_in l D k ((nI t0).toInt64) 1 30) cf_X3_in q_749 [] rfl rfl rfl ⟨by decide, by decide⟩ (Nat.le_of_ble_eq_true rfl) ⟨by decide, by decide⟩ dX3_pass_7 ?_
  refine k_steq (st' := [.int (kB (inL ((nI t0).toInt64) 1 30)), .ref (a 0)]) rfl ?_
  refine k_if_eq E (tgt := 29) (by decide) dX3_pass_10 (fun c10 => absurd (kB_f c10) (by rw [inL_t (a := 1) (b := 30) 1 30 (by decide) (by decide) (fun q => absurd ((nI_ltI (a := t0) (b := 1) (by omega) (by omega)).mp q) (by omega)) ((nI_leI (a := t0) (b := 30) (by omega) (by omega)).mpr h2)]; decide)) (fun c10 => ?_)
  have c10 := kB_t c10
  refine k_aload_n E 0 rfl rfl dX3_pass_13 ?_
  refine k_get E inX3 0 rfl rfl 0 (by decide) q_675 rfl rfl dX3_pass_14 ?_
  refine k_iload_n E 1 rfl rfl dX3_pass_17 ?_
  refine k_iadd E dX3_pass_18 ?_
  refine k_steq (st' := [.int (nI (dy + t0)), .ref (a 0)]) (by rw [show (nI dy) + (nI t0) = nI (dy + t0) from nI_add _ _]) ?_
  refine k_sipush E (v := 999) (by decide) dX3_pass_19 ?_
  refine k_icmp_gt E (tgt := 29) (by decide) dX3_pass_22 (fun c22 => absurd ((nI_ltI (a := 999) (b := (dy + t0)) (by omega) (by omega)).mp c22) (by omega)) (fun c22 => ?_)
  have c22 := (not_congr (nI_ltI (a := 999) (b := (dy + t0)) (by omega) (by omega))).mp c22
  refine k_iconst E (v := 0) (by decide) dX3_pass_25 ?_
  refine k_goto E (tgt := 30) (by decide) dX3_pass_26 ?_
  refine k_put (ws' := (wMO k a (nI dy) rooms tanks bests cows (nI nf) vrooms inv vsh (nI nv) (kB ub) vis rounds itk farm amount mark ways (nI n) (nI nb) 0)) E inX3 tyX3 tyX3_ok nmX3 0 rfl rfl 20 (by decide) q_695 rfl rfl rfl rfl (Nat.le_of_ble_eq_true rfl) rfl dX3_pass_30 ?_
  refine k_aload_n E 0 rfl rfl dX3_pass_33 ?_
  refine k_get E inX3 0 rfl rfl 20 (by decide) q_695 rfl rfl dX3_pass_34 ?_
  refine k_if_ne E (tgt := 44) (by decide) dX3_pass_37 (fun h => absurd (by decide) h) (fun _ => ?_)
  refine k_iconst E (v := 0) (by decide) dX3_pass_40 ?_
  refine k_goto E (tgt := 45) (by decide) dX3_pass_41 ?_
  refine k_istore_n (lv' := [(2, .int 0), (0, .ref (a 0)), (1, .int (nI t0))]) E rfl (by decide) rfl dX3_pass_45 ?_
  refine k_iconst E (v := 0) (by decide) dX3_pass_46 ?_
  refine k_istore_n (lv' := [(3, .int 0), (2, .int 0), (0, .ref (a 0)), (1, .int (nI t0))]) E rfl (by decide) rfl dX3_pass_47 ?_
  have L48 : ∀ (dn48 : Nat) (t : Nat) (tk : Nat → Int32) (x : Int32), t + dn48 = t0 → (tk = tkN rooms tanks bests cw dy nf t) → (x = poN rooms tanks bests cw dy nf t) → kJ p l e (kRmc 1 25 0 0) s m args below meth c (gW D (va_A (wMO k a (nI dy) rooms tanks bests cows (nI nf) vrooms inv vsh (nI nv) (kB ub) vis rounds itk farm amount mark ways (nI n) (nI nb) thr) s.heap.size) s.heap) 9 0 0 (MQ below (kQw (some (.int (poN rooms tanks bests cw dy nf t0))) D (wMO k a (nI dy) rooms tanks bests cows (nI nf) vrooms inv vsh (nI nv) (kB ub) vis rounds itk farm amount mark ways (nI n) (nI nb) thr) (wMO k a (nI (dy + t0)) rooms (tkN rooms tanks bests cw dy nf t0) bests cows (nI nf) vrooms inv vsh (nI nv) (kB ub) vis rounds itk farm amount mark ways (nI n) (nI nb) 0) s.heap.size) args s 0 0 (va_A (wMO k a (nI dy) rooms tanks bests cows (nI nf) vrooms inv vsh (nI nv) (kB ub) vis rounds itk farm amount mark ways (nI n) (nI nb) thr) s.heap.size)) (wMO k a (nI (dy + t)) rooms tk bests cows (nI nf) vrooms inv vsh (nI nv) (kB ub) vis rounds itk farm amount mark ways (nI n) (nI nb) 0) 48 [(0, .ref (a 0)), (1, .int (nI t0)), (2, .int x), (3, .int (nI t))] [] := by
    intro dn48
    induction dn48 with
    | zero =>
      intro t tk x hd48 ht hx
      refine k_iload_n E 3 rfl rfl dX3_pass_48 ?_
      refine k_iload_n E 1 rfl rfl dX3_pass_49 ?_
      refine k_icmp_ge E (tgt := 189) (by decide) dX3_pass_50 (fun c50 => ?_) (fun c50 => absurd ((not_congr (nI_leI (a := t0) (b := t) (by omega) (by omega))).mp c50) (by omega))
      have c50 := (nI_leI (a := t0) (b := t) (by omega) (by omega)).mp c50
      refine k_iload_n E 2 rfl rfl dX3_pass_189 ?_
      exact kw_iret E hr hlk (by rw [hx, show t = t0 by omega]) (by rw [ht, show t = t0 by omega]) (by decide) (by decide) dX3_pass_190
    | succ dn48 ih48 =>
      intro t tk x hd48 ht hx
      refine k_iload_n E 3 rfl rfl dX3_pass_48 ?_
      refine k_iload_n E 1 rfl rfl dX3_pass_49 ?_
      refine k_icmp_ge E (tgt := 189) (by decide) dX3_pass_50 (fun c50 => absurd ((nI_leI (a := t0) (b := t) (by omega) (by omega)).mp c50) (by omega)) (fun c50 => ?_)
      have c50 := (not_congr (nI_leI (a := t0) (b := t) (by omega) (by omega))).mp c50
      refine k_aload_n E 0 rfl rfl dX3_pass_53 ?_
      refine k_get E inX3 0 rfl rfl 20 (by decide) q_695 rfl rfl dX3_pass_54 ?_
      refine k_if_ne E (tgt := 189) (by decide) dX3_pass_57 (fun h => absurd (by decide) h) (fun _ => ?_)
      refine k_aload_n E 0 rfl rfl dX3_pass_60 ?_
      refine k_dup E rfl dX3_pass_61 ?_
      refine k_get E inX3 0 rfl rfl 0 (by decide) q_675 rfl rfl dX3_pass_62 ?_
      refine k_iconst E (v := 1) (by decide) dX3_pass_65 ?_
      refine k_iadd E dX3_pass_66 ?_
      refine k_steq (st' := [.int (nI (dy + t + 1)), .ref (a 0)]) (by rw [show (nI (dy + t)) + 1 = nI (dy + t + 1) from nI_1 _]) ?_
      refine k_put (ws' := (wMO k a (nI (dy + t + 1)) rooms tk bests cows (nI nf) vrooms inv vsh (nI nv) (kB ub) vis rounds itk farm amount mark ways (nI n) (nI nb) 0)) E inX3 tyX3 tyX3_ok nmX3 0 rfl rfl 0 (by decide) q_675 rfl rfl rfl rfl (Nat.le_of_ble_eq_true rfl) rfl dX3_pass_67 ?_
      refine k_iconst E (v := 0) (by decide) dX3_pass_70 ?_
      refine k_istore (lv' := [(4, .int 0), (0, .ref (a 0)), (1, .int (nI t0)), (2, .int x), (3, .int (nI t))]) E (by decide) rfl dX3_pass_71 ?_
      have L73 : ∀ (dn73 : Nat) (i : Nat) (tk2 : Nat → Int32) (x2 : Int32), i + dn73 = nf → (tk2 = tkM rooms tk bests cw (nI (dy + t + 1)) i) → (x2 = x + poM rooms tk bests cw (nI (dy + t + 1)) i) → kJ p l e (kRmc 1 25 0 0) s m args below meth c (gW D (va_A (wMO k a (nI dy) rooms tanks bests cows (nI nf) vrooms inv vsh (nI nv) (kB ub) vis rounds itk farm amount mark ways (nI n) (nI nb) thr) s.heap.size) s.heap) 9 0 0 (MQ below (kQw (some (.int (poN rooms tanks bests cw dy nf t0))) D (wMO k a (nI dy) rooms tanks bests cows (nI nf) vrooms inv vsh (nI nv) (kB ub) vis rounds itk farm amount mark ways (nI n) (nI nb) thr) (wMO k a (nI (dy + t0)) rooms (tkN rooms tanks bests cw dy nf t0) bests cows (nI nf) vrooms inv vsh (nI nv) (kB ub) vis rounds itk farm amount mark ways (nI n) (nI nb) 0) s.heap.size) args s 0 0 (va_A (wMO k a (nI dy) rooms tanks bests cows (nI nf) vrooms inv vsh (nI nv) (kB ub) vis rounds itk farm amount mark ways (nI n) (nI nb) thr) s.heap.size)) (wMO k a (nI (dy + t + 1)) rooms tk2 bests cows (nI nf) vrooms inv vsh (nI nv) (kB ub) vis rounds itk farm amount mark ways (nI n) (nI nb) 0) 73 [(0, .ref (a 0)), (1, .int (nI t0)), (2, .int x2), (3, .int (nI t)), (4, .int (nI i))] [] := by
        intro dn73
        induction dn73 with
        | zero =>
          intro i tk2 x2 hd73 ht2 hx2
          refine k_iload E 4 rfl dX3_pass_73 ?_
          refine k_aload_n E 0 rfl rfl dX3_pass_75 ?_
          refine k_get E inX3 0 rfl rfl 5 (by decide) q_680 rfl rfl dX3_pass_76 ?_
          refine k_icmp_ge E (tgt := 183) (by decide) dX3_pass_79 (fun c79 => ?_) (fun c79 => absurd ((not_congr (nI_leI (a := nf) (b := i) (by omega) (by omega))).mp c79) (by omega))
          have c79 := (nI_leI (a := nf) (b := i) (by omega) (by omega)).mp c79
          refine k_iinc (q := 3) (v := nI (t + 1)) (lv' := [(3, .int (nI (t + 1))), (0, .ref (a 0)), (1, .int (nI t0)), (2, .int x2), (4, .int (nI i))]) E rfl (nI_inc _) (by decide) rfl dX3_pass_183 ?_
          refine k_goto E (tgt := 48) (by decide) dX3_pass_186 ?_
          refine k_lv [1, 2, 3, 0] rfl ?_
          exact ih48 (t + 1) tk2 x2 (by omega) (by rw [ht2, show i = nf by omega, ht]; rfl) (by rw [hx2, show i = nf by omega, hx, ht]; rfl)
        | succ dn73 ih73 =>
          intro i tk2 x2 hd73 ht2 hx2
          refine k_iload E 4 rfl dX3_pass_73 ?_
          refine k_aload_n E 0 rfl rfl dX3_pass_75 ?_
          refine k_get E inX3 0 rfl rfl 5 (by decide) q_680 rfl rfl dX3_pass_76 ?_
          refine k_icmp_ge E (tgt := 183) (by decide) dX3_pass_79 (fun c79 => absurd ((nI_leI (a := nf) (b := i) (by omega) (by omega)).mp c79) (by omega)) (fun c79 => ?_)
          have c79 := (not_congr (nI_leI (a := nf) (b := i) (by omega) (by omega))).mp c79
          refine k_iconst E (v := 0) (by decide) dX3_pass_82 ?_
          refine k_istore (lv' := [(5, .int 0), (0, .ref (a 0)), (1, .int (nI t0)), (2, .int x2), (3, .int (nI t)), (4, .int (nI i))]) E (by decide) rfl dX3_pass_83 ?_
          have hcw5 := (hcw i (by omega)).2
          have L85 : ∀ (dn85 : Nat) (c_ : Nat) (tk3 : Nat → Int32) (x3 : Int32), c_ + dn85 = (cw i) → (tk3 = upd tk2 i (mt (brow bests i) (nI (dy + t + 1)) (rooms i) (tk i) c_)) → (x3 = x2 + mp (brow bests i) (nI (dy + t + 1)) (rooms i) (tk i) c_) → kJ p l e (kRmc 1 25 0 0) s m args below meth c (gW D (va_A (wMO k a (nI dy) rooms tanks bests cows (nI nf) vrooms inv vsh (nI nv) (kB ub) vis rounds itk farm amount mark ways (nI n) (nI nb) thr) s.heap.size) s.heap) 9 0 0 (MQ below (kQw (some (.int (poN rooms tanks bests cw dy nf t0))) D (wMO k a (nI dy) rooms tanks bests cows (nI nf) vrooms inv vsh (nI nv) (kB ub) vis rounds itk farm amount mark ways (nI n) (nI nb) thr) (wMO k a (nI (dy + t0)) rooms (tkN rooms tanks bests cw dy nf t0) bests cows (nI nf) vrooms inv vsh (nI nv) (kB ub) vis rounds itk farm amount mark ways (nI n) (nI nb) 0) s.heap.size) args s 0 0 (va_A (wMO k a (nI dy) rooms tanks bests cows (nI nf) vrooms inv vsh (nI nv) (kB ub) vis rounds itk farm amount mark ways (nI n) (nI nb) thr) s.heap.size)) (wMO k a (nI (dy + t + 1)) rooms tk3 bests cows (nI nf) vrooms inv vsh (nI nv) (kB ub) vis rounds itk farm amount mark ways (nI n) (nI nb) 0) 85 [(0, .ref (a 0)), (1, .int (nI t0)), (2, .int x3), (3, .int (nI t)), (4, .int (nI i)), (5, .int (nI c_))] [] := by
            intro dn85
            induction dn85 with
            | zero =>
              intro c_ tk3 x3 hd85 ht3 hx3
              have hcw5 := (hcw i (by omega)).2
              refine k_iload E 5 rfl dX3_pass_85 ?_
              refine k_aload_n E 0 rfl rfl dX3_pass_87 ?_
              refine k_get E inX3 0 rfl rfl 4 (by decide) q_679 rfl rfl dX3_pass_88 ?_
              refine k_iload E 4 rfl dX3_pass_91 ?_
              refine k_iald E (j := i) 4 0 rfl rfl rfl (by omega) (by decide) dX3_pass_93 ?_
              refine k_steq (st' := [.int (nI (cw i)), .int (nI c_)]) (by rw [show cows i = nI (cw i) from (hcw i (by omega)).1]) ?_
              refine k_icmp_ge E (tgt := 177) (by decide) dX3_pass_94 (fun c94 => ?_) (fun c94 => absurd ((not_congr (nI_leI (a := (cw i)) (b := c_) (by omega) (by omega))).mp c94) (by omega))
              have c94 := (nI_leI (a := (cw i)) (b := c_) (by omega) (by omega)).mp c94
              refine k_iinc (q := 4) (v := nI (i + 1)) (lv' := [(4, .int (nI (i + 1))), (0, .ref (a 0)), (1, .int (nI t0)), (2, .int x3), (3, .int (nI t)), (5, .int (nI c_))]) E rfl (nI_inc _) (by decide) rfl dX3_pass_177 ?_
              refine k_goto E (tgt := 73) (by decide) dX3_pass_180 ?_
              refine k_lv [1, 2, 3, 4, 0] rfl ?_
              exact ih73 (i + 1) tk3 x3 (by omega) (by rw [ht3, show c_ = cw i by omega, ht2]; exact wr_t (v := fun j => mt (brow bests j) (nI (dy + t + 1)) (rooms j) (tk j) (cw j)) rfl) (by rw [hx3, show c_ = cw i by omega, hx2]; simp [poM, sI, Int32.add_assoc])
            | succ dn85 ih85 =>
              intro c_ tk3 x3 hd85 ht3 hx3
              have hcw5 := (hcw i (by omega)).2
              refine k_iload E 5 rfl dX3_pass_85 ?_
              refine k_aload_n E 0 rfl rfl dX3_pass_87 ?_
              refine k_get E inX3 0 rfl rfl 4 (by decide) q_679 rfl rfl dX3_pass_88 ?_
              refine k_iload E 4 rfl dX3_pass_91 ?_
              refine k_iald E (j := i) 4 0 rfl rfl rfl (by omega) (by decide) dX3_pass_93 ?_
              refine k_steq (st' := [.int (nI (cw i)), .int (nI c_)]) (by rw [show cows i = nI (cw i) from (hcw i (by omega)).1]) ?_
              refine k_icmp_ge E (tgt := 177) (by decide) dX3_pass_94 (fun c94 => absurd ((nI_leI (a := (cw i)) (b := c_) (by omega) (by omega)).mp c94) (by omega)) (fun c94 => ?_)
              have c94 := (not_congr (nI_leI (a := (cw i)) (b := c_) (by omega) (by omega))).mp c94
              refine k_aload_n E 0 rfl rfl dX3_pass_97 ?_
              refine k_get E inX3 0 rfl rfl 3 (by decide) q_678 rfl rfl dX3_pass_98 ?_
              refine k_iconst E (v := 5) (by decide) dX3_pass_101 ?_
              refine k_iload E 4 rfl dX3_pass_102 ?_
              refine k_imul E dX3_pass_104 ?_
              refine k_steq (st' := [.int (nI (5 * i)), .ref (a 3)]) (by rw [show 5 * (nI i) = nI (5 * i) from pk_mul 5 i]) ?_
              refine k_iload E 5 rfl dX3_pass_105 ?_
              refine k_iadd E dX3_pass_107 ?_
              refine k_steq (st' := [.int (nI (5 * i + c_)), .ref (a 3)]) (by rw [show (nI (5 * i)) + (nI c_) = nI (5 * i + c_) from nI_add _ _]) ?_
              refine k_iald E (j := (5 * i + c_)) 3 0 rfl rfl rfl (by omega) (by decide) dX3_pass_108 ?_
              refine k_aload_n E 0 rfl rfl dX3_pass_109 ?_
              refine k_get E inX3 0 rfl rfl 0 (by decide) q_675 rfl rfl dX3_pass_110 ?_
              refine k_callRS [.int (bests (5 * i + c_)), .int (nI (dy + t + 1))] E (m_X3_gives l D k (bests (5 * i + c_)) (nI (dy + t + 1))) cf_X3_gives q_767 [] rfl rfl rfl ⟨by decide, by decide⟩ (Nat.le_of_ble_eq_true rfl) ⟨by decide, by decide⟩ dX3_pass_113 ?_
              refine k_steq (st' := [.int (milkC (bests (5 * i + c_)) (nI (dy + t + 1)))]) rfl ?_
              refine k_istore (lv' := [(6, .int (milkC (bests (5 * i + c_)) (nI (dy + t + 1)))), (0, .ref (a 0)), (1, .int (nI t0)), (2, .int x3), (3, .int (nI t)), (4, .int (nI i)), (5, .int (nI c_))]) E (by decide) rfl dX3_pass_116 ?_
              refine k_aload_n E 1 rfl rfl dX3_pass_118 ?_
              refine k_get E inX3 0 rfl rfl 1 (by decide) q_676 rfl rfl dX3_pass_119 ?_
              refine k_iload E 5 rfl dX3_pass_122 ?_
              refine k_iald E (j := i) 1 0 rfl rfl rfl (by omega) (by decide) dX3_pass_124 ?_
              refine k_aload_n E 1 rfl rfl dX3_pass_125 ?_
              refine k_get E inX3 0 rfl rfl 2 (by decide) q_677 rfl rfl dX3_pass_126 ?_
              refine k_iload E 5 rfl dX3_pass_129 ?_
              refine k_iald E (j := i) 2 0 rfl rfl rfl (by omega) (by decide) dX3_pass_131 ?_
              refine k_isub E dX3_pass_132 ?_
              refine k_istore (lv' := [(7, .int ((rooms i) - (tk3 i))), (6, .int (milkC (bests (5 * i + c_)) (nI (dy + t + 1)))), (0, .ref (a 0)), (1, .int (nI t0)), (2, .int x3), (3, .int (nI t)), (4, .int (nI i)), (5, .int (nI c_))]) E (by decide) rfl dX3_pass_133 ?_
              refine k_iload E 1 rfl dX3_pass_135 ?_
              refine k_iload E 0 rfl dX3_pass_137 ?_
              refine k_icmp_ge E (tgt := 147) (by decide) dX3_pass_139 (fun c139 => ?_) (fun c139 => ?_)
              · skip
                have hm9 : rooms i - tk3 i = minI (milkC (bests (5 * i + c_)) (nI (dy + t + 1))) (rooms i - tk3 i) := (minI_r c139).symm
                refine k_iload E 0 rfl dX3_pass_147 ?_
                refine k_istore (lv' := [(8, .int ((rooms i) - (tk3 i))), (7, .int ((rooms i) - (tk3 i))), (6, .int (milkC (bests (5 * i + c_)) (nI (dy + t + 1)))), (0, .ref (a 0)), (1, .int (nI t0)), (2, .int x3), (3, .int (nI t)), (4, .int (nI i)), (5, .int (nI c_))]) E (by decide) rfl dX3_pass_149 ?_
                refine k_aload_n E 3 rfl rfl dX3_pass_151 ?_
                refine k_get E inX3 0 rfl rfl 2 (by decide) q_677 rfl rfl dX3_pass_152 ?_
                refine k_iload E 7 rfl dX3_pass_155 ?_
                refine k_dup2 E rfl rfl dX3_pass_157 ?_
                refine k_iald E (j := i) 2 0 rfl rfl rfl (by omega) (by decide) dX3_pass_158 ?_
                refine k_iload E 0 rfl dX3_pass_159 ?_
                refine k_iadd E dX3_pass_161 ?_
                refine k_iast (y := (tk3 i) + ((rooms i) - (tk3 i))) (j := i) (ws' := (wMO k a (nI (dy + t + 1)) rooms (upd tk3 i ((tk3 i) + ((rooms i) - (tk3 i)))) bests cows (nI nf) vrooms inv vsh (nI nv) (kB ub) vis rounds itk farm amount mark ways (nI n) (nI nb) 0)) E 2 0 rfl rfl rfl (by omega) (by decide) rfl rfl dX3_pass_162 ?_
                refine k_iload_n E 5 rfl rfl dX3_pass_163 ?_
                refine k_iload E 2 rfl dX3_pass_164 ?_
                refine k_iload E 0 rfl dX3_pass_166 ?_
                refine k_isub E dX3_pass_168 ?_
                refine k_iadd E dX3_pass_169 ?_
                refine k_istore_n (lv' := [(2, .int (x3 + ((milkC (bests (5 * i + c_)) (nI (dy + t + 1))) - ((rooms i) - (tk3 i))))), (8, .int ((rooms i) - (tk3 i))), (7, .int ((rooms i) - (tk3 i))), (6, .int (milkC (bests (5 * i + c_)) (nI (dy + t + 1)))), (0, .ref (a 0)), (1, .int (nI t0)), (3, .int (nI t)), (4, .int (nI i)), (5, .int (nI c_))]) E rfl (by decide) rfl dX3_pass_170 ?_
                refine k_iinc (q := 8) (v := nI (c_ + 1)) (lv' := [(5, .int (nI (c_ + 1))), (2, .int (x3 + ((milkC (bests (5 * i + c_)) (nI (dy + t + 1))) - ((rooms i) - (tk3 i))))), (8, .int ((rooms i) - (tk3 i))), (7, .int ((rooms i) - (tk3 i))), (6, .int (milkC (bests (5 * i + c_)) (nI (dy + t + 1)))), (0, .ref (a 0)), (1, .int (nI t0)), (3, .int (nI t)), (4, .int (nI i))]) E rfl (nI_inc _) (by decide) rfl dX3_pass_171 ?_
                refine k_goto E (tgt := 85) (by decide) dX3_pass_174 ?_
                have hcw5 := (hcw i (by omega)).2
                refine k_lv [5, 6, 1, 7, 8, 0] rfl ?_
                exact ih85 (c_ + 1) (upd tk3 i ((tk3 i) + ((rooms i) - (tk3 i)))) (x3 + ((milkC (bests (5 * i + c_)) (nI (dy + t + 1))) - ((rooms i) - (tk3 i)))) (by omega) (pass_a (row := brow bests i) ht3 hm9) (pass_b (row := brow bests i) ht3 hx3 hm9)
              · skip
                have hm9 : milkC (bests (5 * i + c_)) (nI (dy + t + 1)) = minI (milkC (bests (5 * i + c_)) (nI (dy + t + 1))) (rooms i - tk3 i) := (minI_l c139).symm
                refine k_iload E 1 rfl dX3_pass_142 ?_
                refine k_goto E (tgt := 149) (by decide) dX3_pass_144 ?_
                refine k_istore (lv' := [(8, .int (milkC (bests (5 * i + c_)) (nI (dy + t + 1)))), (7, .int ((rooms i) - (tk3 i))), (6, .int (milkC (bests (5 * i + c_)) (nI (dy + t + 1)))), (0, .ref (a 0)), (1, .int (nI t0)), (2, .int x3), (3, .int (nI t)), (4, .int (nI i)), (5, .int (nI c_))]) E (by decide) rfl dX3_pass_149 ?_
                refine k_aload_n E 3 rfl rfl dX3_pass_151 ?_
                refine k_get E inX3 0 rfl rfl 2 (by decide) q_677 rfl rfl dX3_pass_152 ?_
                refine k_iload E 7 rfl dX3_pass_155 ?_
                refine k_dup2 E rfl rfl dX3_pass_157 ?_
                refine k_iald E (j := i) 2 0 rfl rfl rfl (by omega) (by decide) dX3_pass_158 ?_
                refine k_iload E 0 rfl dX3_pass_159 ?_
                refine k_iadd E dX3_pass_161 ?_
                refine k_iast (y := (tk3 i) + (milkC (bests (5 * i + c_)) (nI (dy + t + 1)))) (j := i) (ws' := (wMO k a (nI (dy + t + 1)) rooms (upd tk3 i ((tk3 i) + (milkC (bests (5 * i + c_)) (nI (dy + t + 1))))) bests cows (nI nf) vrooms inv vsh (nI nv) (kB ub) vis rounds itk farm amount mark ways (nI n) (nI nb) 0)) E 2 0 rfl rfl rfl (by omega) (by decide) rfl rfl dX3_pass_162 ?_
                refine k_iload_n E 5 rfl rfl dX3_pass_163 ?_
                refine k_iload E 2 rfl dX3_pass_164 ?_
                refine k_iload E 0 rfl dX3_pass_166 ?_
                refine k_isub E dX3_pass_168 ?_
                refine k_iadd E dX3_pass_169 ?_
                refine k_istore_n (lv' := [(2, .int (x3 + ((milkC (bests (5 * i + c_)) (nI (dy + t + 1))) - (milkC (bests (5 * i + c_)) (nI (dy + t + 1)))))), (8, .int (milkC (bests (5 * i + c_)) (nI (dy + t + 1)))), (7, .int ((rooms i) - (tk3 i))), (6, .int (milkC (bests (5 * i + c_)) (nI (dy + t + 1)))), (0, .ref (a 0)), (1, .int (nI t0)), (3, .int (nI t)), (4, .int (nI i)), (5, .int (nI c_))]) E rfl (by decide) rfl dX3_pass_170 ?_
                refine k_iinc (q := 8) (v := nI (c_ + 1)) (lv' := [(5, .int (nI (c_ + 1))), (2, .int (x3 + ((milkC (bests (5 * i + c_)) (nI (dy + t + 1))) - (milkC (bests (5 * i + c_)) (nI (dy + t + 1)))))), (8, .int (milkC (bests (5 * i + c_)) (nI (dy + t + 1)))), (7, .int ((rooms i) - (tk3 i))), (6, .int (milkC (bests (5 * i + c_)) (nI (dy + t + 1)))), (0, .ref (a 0)), (1, .int (nI t0)), (3, .int (nI t)), (4, .int (nI i))]) E rfl (nI_inc _) (by decide) rfl dX3_pass_171 ?_
                refine k_goto E (tgt := 85) (by decide) dX3_pass_174 ?_
                have hcw5 := (hcw i (by omega)).2
                refine k_lv [5, 6, 1, 7, 8, 0] rfl ?_
                exact ih85 (c_ + 1) (upd tk3 i ((tk3 i) + (milkC (bests (5 * i + c_)) (nI (dy + t + 1))))) (x3 + ((milkC (bests (5 * i + c_)) (nI (dy + t + 1))) - (milkC (bests (5 * i + c_)) (nI (dy + t + 1))))) (by omega) (pass_a (row := brow bests i) ht3 hm9) (pass_b (row := brow bests i) ht3 hx3 hm9)
          refine k_lv [1, 2, 3, 4, 5, 0] rfl ?_
          exact L85 ((cw i) - 0) 0 tk2 x2 (by omega) (by rw [show mt (brow bests i) (nI (dy + t + 1)) (rooms i) (tk i) 0 = tk2 i from by rw [ht2]; show tk i = wr (fun _ => true) (fun j => mt (brow bests j) (nI (dy + t + 1)) (rooms j) (tk j) (cw j)) tk i i; exact (wr_at _ _ _ _).symm, upd_self]) (by simp [mp])
      refine k_lv [1, 2, 3, 4, 0] rfl ?_
      exact L73 (nf - 0) 0 tk x (by omega) (wr_0 _ _ _).symm (by simp [poM, sI])
  refine k_lv [2, 3, 1, 0] rfl ?_
  exact L48 (t0 - 0) 0 tanks 0 (by omega) rfl rfl
set_option maxRecDepth 100000 in
set_option maxHeartbeats 4000000 in
theorem m_X3_pass_a (l : Launch) (D : va_G) (k : Nat → ClassId) (a : Nat → Nat) (dy : Nat) (rooms : Nat → Int32) (tanks : Nat → Int32) (bests : Nat → Int32) (cows : Nat → Int32) (nf : Nat) (vrooms : Nat → Int32) (inv : Nat → Int32) (vsh : Nat → Int32) (nv : Nat) (ub : Bool) (vis : Nat → Int32) (rounds : Int32) (itk : Int32) (farm : Nat → Int32) (amount : Nat → Int32) (mark : Nat → Int32) (ways : Nat → Int32) (n : Nat) (nb : Nat) (thr : Int32) (dz : Int32) (hb : dz < 1 ∨ 30 < dz ∨ ¬ (nI dy + dz ≤ 999)) : mW l yX3_pass cX3_pass 9 (some .int) 1 25 0 0 D (kTy k) [.ref (a 0), .int dz] (wMO k a (nI dy) rooms tanks bests cows (nI nf) vrooms inv vsh (nI nv) (kB ub) vis rounds itk farm amount mark ways (nI n) (nI nb) thr) (some (.int (-1))) (wMO k a (nI dy) rooms tanks bests cows (nI nf) vrooms inv vsh (nI nv) (kB ub) vis rounds itk farm amount mark ways (nI n) (nI nb) 1) := by
  refine mW.of (lv' := [(0, .ref (a 0)), (1, .int dz)]) (by decide) (Nat.le_of_ble_eq_true rfl) rfl ?_
  intro p e s m args below meth c E hr hlk hm hA
  refine k_aload_n E 0 rfl rfl dX3_pass_0 ?_
  refine k_iload_n E 1 rfl rfl dX3_pass_1 ?_
  refine k_i2l E (v := dz.toInt64) rfl dX3_pass_2 ?_
  refine k_lconst E (v := 1) (by decide) dX3_pass_3 ?_
  refine k_ldc2 E (v := 30) q_761 dX3_pass_4 ?_
  refine k_callRS [.long dz.toInt64, .long 1, .long 30] E (m_X3_in l D k dz.toInt64 1 30) cf_X3_in q_749 [] rfl rfl rfl ⟨by decide, by decide⟩ (Nat.le_of_ble_eq_true rfl) ⟨by decide, by decide⟩ dX3_pass_7 ?_
  refine k_steq (st' := [.int (kB (inL dz.toInt64 1 30)), .ref (a 0)]) rfl ?_
  refine k_if_eq E (tgt := 29) (by decide) dX3_pass_10 (fun c10 => ?_) (fun c10 => ?_)
  · skip
    have c10 := kB_f c10
    refine k_iconst E (v := 1) (by decide) dX3_pass_29 ?_
    refine k_put (ws' := (wMO k a (nI dy) rooms tanks bests cows (nI nf) vrooms inv vsh (nI nv) (kB ub) vis rounds itk farm amount mark ways (nI n) (nI nb) 1)) E inX3 tyX3 tyX3_ok nmX3 0 rfl rfl 20 (by decide) q_695 rfl rfl rfl rfl (Nat.le_of_ble_eq_true rfl) rfl dX3_pass_30 ?_
    refine k_aload_n E 0 rfl rfl dX3_pass_33 ?_
    refine k_get E inX3 0 rfl rfl 20 (by decide) q_695 rfl rfl dX3_pass_34 ?_
    refine k_if_ne E (tgt := 44) (by decide) dX3_pass_37 (fun _ => ?_) (fun h => absurd h (by decide))
    refine k_iconst E (v := (-1)) (by decide) dX3_pass_44 ?_
    refine k_istore_n (lv' := [(2, .int (-1)), (0, .ref (a 0)), (1, .int dz)]) E rfl (by decide) rfl dX3_pass_45 ?_
    refine k_iconst E (v := 0) (by decide) dX3_pass_46 ?_
    refine k_istore_n (lv' := [(3, .int 0), (2, .int (-1)), (0, .ref (a 0)), (1, .int dz)]) E rfl (by decide) rfl dX3_pass_47 ?_
    refine k_iload_n E 0 rfl rfl dX3_pass_48 ?_
    refine k_iload_n E 3 rfl rfl dX3_pass_49 ?_
    refine k_icmp_ge E (tgt := 189) (by decide) dX3_pass_50 (fun c50 => ?_) (fun c50 => ?_)
    · skip
      refine k_iload_n E 1 rfl rfl dX3_pass_189 ?_
      exact kw_iret E hr hlk rfl rfl (by decide) (by decide) dX3_pass_190
    · skip
      refine k_aload_n E 2 rfl rfl dX3_pass_53 ?_
      refine k_get E inX3 0 rfl rfl 20 (by decide) q_695 rfl rfl dX3_pass_54 ?_
      refine k_if_ne E (tgt := 189) (by decide) dX3_pass_57 (fun _ => ?_) (fun h => absurd h (by decide))
      refine k_iload_n E 1 rfl rfl dX3_pass_189 ?_
      exact kw_iret E hr hlk rfl rfl (by decide) (by decide) dX3_pass_190
  · skip
    have c10 := kB_t c10
    refine k_aload_n E 0 rfl rfl dX3_pass_13 ?_
    refine k_get E inX3 0 rfl rfl 0 (by decide) q_675 rfl rfl dX3_pass_14 ?_
    refine k_iload_n E 1 rfl rfl dX3_pass_17 ?_
    refine k_iadd E dX3_pass_18 ?_
    refine k_sipush E (v := 999) (by decide) dX3_pass_19 ?_
    refine k_icmp_gt E (tgt := 29) (by decide) dX3_pass_22 (fun c22 => ?_) (fun c22 => absurd c22 (not_not_intro (Int32.not_le.mp ((hb.resolve_left (fun q => by rw [inL_f (a := 1) (b := 30) 1 30 (by decide) (by decide) (Or.inl q)] at c10; cases c10)).resolve_left (fun q => by rw [inL_f (a := 1) (b := 30) 1 30 (by decide) (by decide) (Or.inr q)] at c10; cases c10)))))
    refine k_iconst E (v := 1) (by decide) dX3_pass_29 ?_
    refine k_put (ws' := (wMO k a (nI dy) rooms tanks bests cows (nI nf) vrooms inv vsh (nI nv) (kB ub) vis rounds itk farm amount mark ways (nI n) (nI nb) 1)) E inX3 tyX3 tyX3_ok nmX3 0 rfl rfl 20 (by decide) q_695 rfl rfl rfl rfl (Nat.le_of_ble_eq_true rfl) rfl dX3_pass_30 ?_
    refine k_aload_n E 0 rfl rfl dX3_pass_33 ?_
    refine k_get E inX3 0 rfl rfl 20 (by decide) q_695 rfl rfl dX3_pass_34 ?_
    refine k_if_ne E (tgt := 44) (by decide) dX3_pass_37 (fun _ => ?_) (fun h => absurd h (by decide))
    refine k_iconst E (v := (-1)) (by decide) dX3_pass_44 ?_
    refine k_istore_n (lv' := [(2, .int (-1)), (0, .ref (a 0)), (1, .int dz)]) E rfl (by decide) rfl dX3_pass_45 ?_
    refine k_iconst E (v := 0) (by decide) dX3_pass_46 ?_
    refine k_istore_n (lv' := [(3, .int 0), (2, .int (-1)), (0, .ref (a 0)), (1, .int dz)]) E rfl (by decide) rfl dX3_pass_47 ?_
    refine k_iload_n E 0 rfl rfl dX3_pass_48 ?_
    refine k_iload_n E 3 rfl rfl dX3_pass_49 ?_
    refine k_icmp_ge E (tgt := 189) (by decide) dX3_pass_50 (fun c50 => ?_) (fun c50 => ?_)
    · skip
      refine k_iload_n E 1 rfl rfl dX3_pass_189 ?_
      exact kw_iret E hr hlk rfl rfl (by decide) (by decide) dX3_pass_190
    · skip
      refine k_aload_n E 2 rfl rfl dX3_pass_53 ?_
      refine k_get E inX3 0 rfl rfl 20 (by decide) q_695 rfl rfl dX3_pass_54 ?_
      refine k_if_ne E (tgt := 189) (by decide) dX3_pass_57 (fun _ => ?_) (fun h => absurd h (by decide))
      refine k_iload_n E 1 rfl rfl dX3_pass_189 ?_
      exact kw_iret E hr hlk rfl rfl (by decide) (by decide) dX3_pass_190
set_option maxRecDepth 100000 in
set_option maxHeartbeats 4000000 in
theorem m_X3_day (l : Launch) (D : va_G) (k : Nat → ClassId) (a : Nat → Nat) (dy : Nat) (rooms : Nat → Int32) (tanks : Nat → Int32) (bests : Nat → Int32) (cows : Nat → Int32) (nf : Nat) (vrooms : Nat → Int32) (inv : Nat → Int32) (vsh : Nat → Int32) (nv : Nat) (ub : Bool) (vis : Nat → Int32) (rounds : Int32) (itk : Int32) (farm : Nat → Int32) (amount : Nat → Int32) (mark : Nat → Int32) (ways : Nat → Int32) (n : Nat) (nb : Nat) (thr : Int32)  : mW l yX3_day cX3_day 1 (some .int) 0 0 0 0 D (kTy k) [.ref (a 0)] (wMO k a (nI dy) rooms tanks bests cows (nI nf) vrooms inv vsh (nI nv) (kB ub) vis rounds itk farm amount mark ways (nI n) (nI nb) thr) (some (.int (nI dy))) (wMO k a (nI dy) rooms tanks bests cows (nI nf) vrooms inv vsh (nI nv) (kB ub) vis rounds itk farm amount mark ways (nI n) (nI nb) 0) := by
  refine mW.of (lv' := [(0, .ref (a 0))]) (by decide) (Nat.le_of_ble_eq_true rfl) rfl ?_
  intro p e s m args below meth c E hr hlk hm hA
  refine k_aload_n E 0 rfl rfl dX3_day_0 ?_
  refine k_iconst E (v := 0) (by decide) dX3_day_1 ?_
  refine k_put (ws' := (wMO k a (nI dy) rooms tanks bests cows (nI nf) vrooms inv vsh (nI nv) (kB ub) vis rounds itk farm amount mark ways (nI n) (nI nb) 0)) E inX3 tyX3 tyX3_ok nmX3 0 rfl rfl 20 (by decide) q_695 rfl rfl rfl rfl (Nat.le_of_ble_eq_true rfl) rfl dX3_day_2 ?_
  refine k_aload_n E 0 rfl rfl dX3_day_5 ?_
  refine k_get E inX3 0 rfl rfl 0 (by decide) q_675 rfl rfl dX3_day_6 ?_
  exact kw_iret E hr hlk rfl rfl (by decide) (by decide) dX3_day_9
set_option maxRecDepth 100000 in
set_option maxHeartbeats 4000000 in
theorem m_X3_addVat (l : Launch) (D : va_G) (k : Nat → ClassId) (a : Nat → Nat) (dy : Nat) (rooms : Nat → Int32) (tanks : Nat → Int32) (bests : Nat → Int32) (cows : Nat → Int32) (nf : Nat) (vrooms : Nat → Int32) (inv : Nat → Int32) (vsh : Nat → Int32) (nv : Nat) (ub : Bool) (vis : Nat → Int32) (rounds : Int32) (itk : Int32) (farm : Nat → Int32) (amount : Nat → Int32) (mark : Nat → Int32) (ways : Nat → Int32) (n : Nat) (nb : Nat) (thr : Int32) (room : Int32) (h1 : ¬ room < 100) (h2 : room ≤ 900) (hn6 : nv < 4) : mW l yX3_addVat cX3_addVat 2 (some .int) 1 25 0 0 D (kTy k) [.ref (a 0), .int room] (wMO k a (nI dy) rooms tanks bests cows (nI nf) vrooms inv vsh (nI nv) (kB ub) vis rounds itk farm amount mark ways (nI n) (nI nb) thr) (some (.int (nI nv))) (wMO k a (nI dy) rooms tanks bests cows (nI nf) (upd vrooms nv room) inv vsh (nI (nv + 1)) (kB ub) vis rounds itk farm amount mark ways (nI n) (nI nb) 0) := by
  refine mW.of (lv' := [(0, .ref (a 0)), (1, .int room)]) (by decide) (Nat.le_of_ble_eq_true rfl) rfl ?_
  intro p e s m args below meth c E hr hlk hm hA
  refine k_aload_n E 0 rfl rfl dX3_addVat_0 ?_
  refine k_iload_n E 1 rfl rfl dX3_addVat_1 ?_
  refine k_i2l E (v := room.toInt64) rfl dX3_addVat_2 ?_
  refine k_ldc2 E (v := 100) q_786 dX3_addVat_3 ?_
  refine k_ldc2 E (v := 900) q_787 dX3_addVat_6 ?_
  refine k_callRS [.long room.toInt64, .long 100, .long 900] E (m_X3_in l D k room.toInt64 100 900) cf_X3_in q_749 [] rfl rfl rfl ⟨by decide, by decide⟩ (Nat.le_of_ble_eq_true rfl) ⟨by decide, by decide⟩ dX3_addVat_9 ?_
  refine k_steq (st' := [.int (kB (inL room.toInt64 100 900)), .ref (a 0)]) rfl ?_
  refine k_if_ne E (tgt := 19) (by decide) dX3_addVat_12 (fun c12 => ?_) (fun c12 => absurd (kB_f c12) (by rw [inL_t (a := 100) (b := 900) 100 900 (by decide) (by decide) h1 h2]; decide))
  have c12 := kB_t c12
  refine k_aload_n E 0 rfl rfl dX3_addVat_19 ?_
  refine k_get E inX3 0 rfl rfl 9 (by decide) q_684 rfl rfl dX3_addVat_20 ?_
  refine k_iconst E (v := 4) (by decide) dX3_addVat_23 ?_
  refine k_icmp_ne E (tgt := 31) (by decide) dX3_addVat_24 (fun c24 => ?_) (fun c24 => absurd ((nI_eq (a := nv) (b := 4) (by omega) (by omega)).mp c24) (by omega))
  have c24 := (not_congr (nI_eq (a := nv) (b := 4) (by omega) (by omega))).mp c24
  refine k_iconst E (v := 0) (by decide) dX3_addVat_31 ?_
  refine k_put (ws' := (wMO k a (nI dy) rooms tanks bests cows (nI nf) vrooms inv vsh (nI nv) (kB ub) vis rounds itk farm amount mark ways (nI n) (nI nb) 0)) E inX3 tyX3 tyX3_ok nmX3 0 rfl rfl 20 (by decide) q_695 rfl rfl rfl rfl (Nat.le_of_ble_eq_true rfl) rfl dX3_addVat_32 ?_
  refine k_aload_n E 0 rfl rfl dX3_addVat_35 ?_
  refine k_get E inX3 0 rfl rfl 20 (by decide) q_695 rfl rfl dX3_addVat_36 ?_
  refine k_if_le E (tgt := 44) (by decide) dX3_addVat_39 (fun _ => ?_) (fun h => absurd (by decide) h)
  refine k_aload_n E 0 rfl rfl dX3_addVat_44 ?_
  refine k_get E inX3 0 rfl rfl 6 (by decide) q_681 rfl rfl dX3_addVat_45 ?_
  refine k_aload_n E 0 rfl rfl dX3_addVat_48 ?_
  refine k_get E inX3 0 rfl rfl 9 (by decide) q_684 rfl rfl dX3_addVat_49 ?_
  refine k_iload_n E 1 rfl rfl dX3_addVat_52 ?_
  refine k_iast (y := room) (j := nv) (ws' := (wMO k a (nI dy) rooms tanks bests cows (nI nf) (upd vrooms nv room) inv vsh (nI nv) (kB ub) vis rounds itk farm amount mark ways (nI n) (nI nb) 0)) E 5 0 rfl rfl rfl (by omega) (by decide) rfl rfl dX3_addVat_53 ?_
  refine k_aload_n E 0 rfl rfl dX3_addVat_54 ?_
  refine k_dup E rfl dX3_addVat_55 ?_
  refine k_get E inX3 0 rfl rfl 9 (by decide) q_684 rfl rfl dX3_addVat_56 ?_
  refine k_iconst E (v := 1) (by decide) dX3_addVat_59 ?_
  refine k_iadd E dX3_addVat_60 ?_
  refine k_steq (st' := [.int (nI (nv + 1)), .ref (a 0)]) (by rw [show (nI nv) + 1 = nI (nv + 1) from nI_1 nv]) ?_
  refine k_put (ws' := (wMO k a (nI dy) rooms tanks bests cows (nI nf) (upd vrooms nv room) inv vsh (nI (nv + 1)) (kB ub) vis rounds itk farm amount mark ways (nI n) (nI nb) 0)) E inX3 tyX3 tyX3_ok nmX3 0 rfl rfl 9 (by decide) q_684 rfl rfl rfl rfl (Nat.le_of_ble_eq_true rfl) rfl dX3_addVat_61 ?_
  refine k_aload_n E 0 rfl rfl dX3_addVat_64 ?_
  refine k_get E inX3 0 rfl rfl 9 (by decide) q_684 rfl rfl dX3_addVat_65 ?_
  refine k_iconst E (v := 1) (by decide) dX3_addVat_68 ?_
  refine k_isub E dX3_addVat_69 ?_
  refine k_steq (st' := [.int (nI nv)]) (by rw [show (nI (nv + 1)) - 1 = nI nv from nI_pred nv]) ?_
  exact kw_iret E hr hlk rfl rfl (by decide) (by decide) dX3_addVat_70
set_option maxRecDepth 100000 in
set_option maxHeartbeats 4000000 in
theorem m_X3_addVat_a (l : Launch) (D : va_G) (k : Nat → ClassId) (a : Nat → Nat) (dy : Nat) (rooms : Nat → Int32) (tanks : Nat → Int32) (bests : Nat → Int32) (cows : Nat → Int32) (nf : Nat) (vrooms : Nat → Int32) (inv : Nat → Int32) (vsh : Nat → Int32) (nv : Nat) (ub : Bool) (vis : Nat → Int32) (rounds : Int32) (itk : Int32) (farm : Nat → Int32) (amount : Nat → Int32) (mark : Nat → Int32) (ways : Nat → Int32) (n : Nat) (nb : Nat) (thr : Int32) (room : Int32) (hb : room < 100 ∨ 900 < room) : mW l yX3_addVat cX3_addVat 2 (some .int) 1 25 0 0 D (kTy k) [.ref (a 0), .int room] (wMO k a (nI dy) rooms tanks bests cows (nI nf) vrooms inv vsh (nI nv) (kB ub) vis rounds itk farm amount mark ways (nI n) (nI nb) thr) (some (.int (-1))) (wMO k a (nI dy) rooms tanks bests cows (nI nf) vrooms inv vsh (nI nv) (kB ub) vis rounds itk farm amount mark ways (nI n) (nI nb) 1) := by
  refine mW.of (lv' := [(0, .ref (a 0)), (1, .int room)]) (by decide) (Nat.le_of_ble_eq_true rfl) rfl ?_
  intro p e s m args below meth c E hr hlk hm hA
  refine k_aload_n E 0 rfl rfl dX3_addVat_0 ?_
  refine k_iload_n E 1 rfl rfl dX3_addVat_1 ?_
  refine k_i2l E (v := room.toInt64) rfl dX3_addVat_2 ?_
  refine k_ldc2 E (v := 100) q_786 dX3_addVat_3 ?_
  refine k_ldc2 E (v := 900) q_787 dX3_addVat_6 ?_
  refine k_callRS [.long room.toInt64, .long 100, .long 900] E (m_X3_in l D k room.toInt64 100 900) cf_X3_in q_749 [] rfl rfl rfl ⟨by decide, by decide⟩ (Nat.le_of_ble_eq_true rfl) ⟨by decide, by decide⟩ dX3_addVat_9 ?_
  refine k_steq (st' := [.int (kB (inL room.toInt64 100 900)), .ref (a 0)]) rfl ?_
  refine k_if_ne E (tgt := 19) (by decide) dX3_addVat_12 (fun c12 => absurd (kB_t c12) (by rw [inL_f (a := 100) (b := 900) 100 900 (by decide) (by decide) hb]; decide)) (fun c12 => ?_)
  have c12 := kB_f c12
  refine k_iconst E (v := 1) (by decide) dX3_addVat_15 ?_
  refine k_goto E (tgt := 32) (by decide) dX3_addVat_16 ?_
  refine k_put (ws' := (wMO k a (nI dy) rooms tanks bests cows (nI nf) vrooms inv vsh (nI nv) (kB ub) vis rounds itk farm amount mark ways (nI n) (nI nb) 1)) E inX3 tyX3 tyX3_ok nmX3 0 rfl rfl 20 (by decide) q_695 rfl rfl rfl rfl (Nat.le_of_ble_eq_true rfl) rfl dX3_addVat_32 ?_
  refine k_aload_n E 0 rfl rfl dX3_addVat_35 ?_
  refine k_get E inX3 0 rfl rfl 20 (by decide) q_695 rfl rfl dX3_addVat_36 ?_
  refine k_if_le E (tgt := 44) (by decide) dX3_addVat_39 (fun h => absurd h (by decide)) (fun _ => ?_)
  refine k_iconst E (v := (-1)) (by decide) dX3_addVat_42 ?_
  exact kw_iret E hr hlk rfl rfl (by decide) (by decide) dX3_addVat_43
set_option maxRecDepth 100000 in
set_option maxHeartbeats 4000000 in
theorem m_X3_addVat_s (l : Launch) (D : va_G) (k : Nat → ClassId) (a : Nat → Nat) (dy : Nat) (rooms : Nat → Int32) (tanks : Nat → Int32) (bests : Nat → Int32) (cows : Nat → Int32) (nf : Nat) (vrooms : Nat → Int32) (inv : Nat → Int32) (vsh : Nat → Int32) (nv : Nat) (ub : Bool) (vis : Nat → Int32) (rounds : Int32) (itk : Int32) (farm : Nat → Int32) (amount : Nat → Int32) (mark : Nat → Int32) (ways : Nat → Int32) (n : Nat) (nb : Nat) (thr : Int32) (room : Int32) (h1 : ¬ room < 100) (h2 : room ≤ 900) (hn6 : nv = 4) : mW l yX3_addVat cX3_addVat 2 (some .int) 1 25 0 0 D (kTy k) [.ref (a 0), .int room] (wMO k a (nI dy) rooms tanks bests cows (nI nf) vrooms inv vsh (nI nv) (kB ub) vis rounds itk farm amount mark ways (nI n) (nI nb) thr) (some (.int (-1))) (wMO k a (nI dy) rooms tanks bests cows (nI nf) vrooms inv vsh (nI nv) (kB ub) vis rounds itk farm amount mark ways (nI n) (nI nb) 2) := by
  refine mW.of (lv' := [(0, .ref (a 0)), (1, .int room)]) (by decide) (Nat.le_of_ble_eq_true rfl) rfl ?_
  intro p e s m args below meth c E hr hlk hm hA
  refine k_aload_n E 0 rfl rfl dX3_addVat_0 ?_
  refine k_iload_n E 1 rfl rfl dX3_addVat_1 ?_
  refine k_i2l E (v := room.toInt64) rfl dX3_addVat_2 ?_
  refine k_ldc2 E (v := 100) q_786 dX3_addVat_3 ?_
  refine k_ldc2 E (v := 900) q_787 dX3_addVat_6 ?_
  refine k_callRS [.long room.toInt64, .long 100, .long 900] E (m_X3_in l D k room.toInt64 100 900) cf_X3_in q_749 [] rfl rfl rfl ⟨by decide, by decide⟩ (Nat.le_of_ble_eq_true rfl) ⟨by decide, by decide⟩ dX3_addVat_9 ?_
  refine k_steq (st' := [.int (kB (inL room.toInt64 100 900)), .ref (a 0)]) rfl ?_
  refine k_if_ne E (tgt := 19) (by decide) dX3_addVat_12 (fun c12 => ?_) (fun c12 => absurd (kB_f c12) (by rw [inL_t (a := 100) (b := 900) 100 900 (by decide) (by decide) h1 h2]; decide))
  have c12 := kB_t c12
  refine k_aload_n E 0 rfl rfl dX3_addVat_19 ?_
  refine k_get E inX3 0 rfl rfl 9 (by decide) q_684 rfl rfl dX3_addVat_20 ?_
  refine k_iconst E (v := 4) (by decide) dX3_addVat_23 ?_
  refine k_icmp_ne E (tgt := 31) (by decide) dX3_addVat_24 (fun c24 => absurd ((not_congr (nI_eq (a := nv) (b := 4) (by omega) (by omega))).mp c24) (by omega)) (fun c24 => ?_)
  have c24 := (nI_eq (a := nv) (b := 4) (by omega) (by omega)).mp c24
  refine k_iconst E (v := 2) (by decide) dX3_addVat_27 ?_
  refine k_goto E (tgt := 32) (by decide) dX3_addVat_28 ?_
  refine k_put (ws' := (wMO k a (nI dy) rooms tanks bests cows (nI nf) vrooms inv vsh (nI nv) (kB ub) vis rounds itk farm amount mark ways (nI n) (nI nb) 2)) E inX3 tyX3 tyX3_ok nmX3 0 rfl rfl 20 (by decide) q_695 rfl rfl rfl rfl (Nat.le_of_ble_eq_true rfl) rfl dX3_addVat_32 ?_
  refine k_aload_n E 0 rfl rfl dX3_addVat_35 ?_
  refine k_get E inX3 0 rfl rfl 20 (by decide) q_695 rfl rfl dX3_addVat_36 ?_
  refine k_if_le E (tgt := 44) (by decide) dX3_addVat_39 (fun h => absurd h (by decide)) (fun _ => ?_)
  refine k_iconst E (v := (-1)) (by decide) dX3_addVat_42 ?_
  exact kw_iret E hr hlk rfl rfl (by decide) (by decide) dX3_addVat_43
set_option maxRecDepth 100000 in
set_option maxHeartbeats 4000000 in
theorem m_X3_beginRound (l : Launch) (D : va_G) (k : Nat → ClassId) (a : Nat → Nat) (dy : Nat) (rooms : Nat → Int32) (tanks : Nat → Int32) (bests : Nat → Int32) (cows : Nat → Int32) (nf : Nat) (vrooms : Nat → Int32) (inv : Nat → Int32) (vsh : Nat → Int32) (nv : Nat) (ub : Bool) (vis : Nat → Int32) (rounds : Int32) (itk : Int32) (farm : Nat → Int32) (amount : Nat → Int32) (mark : Nat → Int32) (ways : Nat → Int32) (n : Nat) (nb : Nat) (thr : Int32) (hu : ub = false) : mW l yX3_beginRound cX3_beginRound 2 (some .int) 0 0 0 0 D (kTy k) [.ref (a 0)] (wMO k a (nI dy) rooms tanks bests cows (nI nf) vrooms inv vsh (nI nv) (kB ub) vis rounds itk farm amount mark ways (nI n) (nI nb) thr) (some (.int (rounds + 1))) (wMO k a (nI dy) rooms tanks bests cows (nI nf) vrooms inv vsh (nI nv) (kB true) (wr (fun _ => true) (fun _ => 0) vis 6) (rounds + 1) itk farm amount mark ways (nI n) (nI nb) 0) := by
  refine mW.of (lv' := [(0, .ref (a 0))]) (by decide) (Nat.le_of_ble_eq_true rfl) rfl ?_
  intro p e s m args below meth c E hr hlk hm hA
  refine k_aload_n E 0 rfl rfl dX3_beginRound_0 ?_
  refine k_aload_n E 0 rfl rfl dX3_beginRound_1 ?_
  refine k_get E inX3 0 rfl rfl 10 (by decide) q_685 rfl rfl dX3_beginRound_2 ?_
  refine k_if_eq E (tgt := 12) (by decide) dX3_beginRound_5 (fun c5 => ?_) (fun c5 => absurd (kB_t c5) (by rw [hu]; decide))
  have c5 := kB_f c5
  refine k_iconst E (v := 0) (by decide) dX3_beginRound_12 ?_
  refine k_put (ws' := (wMO k a (nI dy) rooms tanks bests cows (nI nf) vrooms inv vsh (nI nv) (kB ub) vis rounds itk farm amount mark ways (nI n) (nI nb) 0)) E inX3 tyX3 tyX3_ok nmX3 0 rfl rfl 20 (by decide) q_695 rfl rfl rfl rfl (Nat.le_of_ble_eq_true rfl) rfl dX3_beginRound_13 ?_
  refine k_aload_n E 0 rfl rfl dX3_beginRound_16 ?_
  refine k_get E inX3 0 rfl rfl 20 (by decide) q_695 rfl rfl dX3_beginRound_17 ?_
  refine k_if_le E (tgt := 25) (by decide) dX3_beginRound_20 (fun _ => ?_) (fun h => absurd (by decide) h)
  refine k_aload_n E 0 rfl rfl dX3_beginRound_25 ?_
  refine k_iconst E (v := 1) (by decide) dX3_beginRound_26 ?_
  refine k_put (ws' := (wMO k a (nI dy) rooms tanks bests cows (nI nf) vrooms inv vsh (nI nv) 1 vis rounds itk farm amount mark ways (nI n) (nI nb) 0)) E inX3 tyX3 tyX3_ok nmX3 0 rfl rfl 10 (by decide) q_685 rfl rfl rfl rfl (Nat.le_of_ble_eq_true rfl) rfl dX3_beginRound_27 ?_
  refine k_iconst E (v := 0) (by decide) dX3_beginRound_30 ?_
  refine k_istore_n (lv' := [(1, .int 0), (0, .ref (a 0))]) E rfl (by decide) rfl dX3_beginRound_31 ?_
  have L32 : ∀ (dn32 : Nat) (i : Nat) (vf : Nat → Int32), i + dn32 = 6 → (vf = wr (fun _ => true) (fun _ => 0) vis i) → kJ p l e (kRmc 0 0 0 0) s m args below meth c (gW D (va_A (wMO k a (nI dy) rooms tanks bests cows (nI nf) vrooms inv vsh (nI nv) (kB ub) vis rounds itk farm amount mark ways (nI n) (nI nb) thr) s.heap.size) s.heap) 2 0 0 (MQ below (kQw (some (.int (rounds + 1))) D (wMO k a (nI dy) rooms tanks bests cows (nI nf) vrooms inv vsh (nI nv) (kB ub) vis rounds itk farm amount mark ways (nI n) (nI nb) thr) (wMO k a (nI dy) rooms tanks bests cows (nI nf) vrooms inv vsh (nI nv) (kB true) (wr (fun _ => true) (fun _ => 0) vis 6) (rounds + 1) itk farm amount mark ways (nI n) (nI nb) 0) s.heap.size) args s 0 0 (va_A (wMO k a (nI dy) rooms tanks bests cows (nI nf) vrooms inv vsh (nI nv) (kB ub) vis rounds itk farm amount mark ways (nI n) (nI nb) thr) s.heap.size)) (wMO k a (nI dy) rooms tanks bests cows (nI nf) vrooms inv vsh (nI nv) 1 vf rounds itk farm amount mark ways (nI n) (nI nb) 0) 32 [(0, .ref (a 0)), (1, .int (nI i))] [] := by
    intro dn32
    induction dn32 with
    | zero =>
      intro i vf hd32 hv
      refine k_iload_n E 1 rfl rfl dX3_beginRound_32 ?_
      refine k_bipush E (v := 6) (by decide) dX3_beginRound_33 ?_
      refine k_icmp_ge E (tgt := 51) (by decide) dX3_beginRound_35 (fun c35 => ?_) (fun c35 => absurd ((not_congr (nI_leI (a := 6) (b := i) (by omega) (by omega))).mp c35) (by omega))
      have c35 := (nI_leI (a := 6) (b := i) (by omega) (by omega)).mp c35
      refine k_aload_n E 0 rfl rfl dX3_beginRound_51 ?_
      refine k_dup E rfl dX3_beginRound_52 ?_
      refine k_get E inX3 0 rfl rfl 12 (by decide) q_687 rfl rfl dX3_beginRound_53 ?_
      refine k_iconst E (v := 1) (by decide) dX3_beginRound_56 ?_
      refine k_iadd E dX3_beginRound_57 ?_
      refine k_put (ws' := (wMO k a (nI dy) rooms tanks bests cows (nI nf) vrooms inv vsh (nI nv) 1 vf (rounds + 1) itk farm amount mark ways (nI n) (nI nb) 0)) E inX3 tyX3 tyX3_ok nmX3 0 rfl rfl 12 (by decide) q_687 rfl rfl rfl rfl (Nat.le_of_ble_eq_true rfl) rfl dX3_beginRound_58 ?_
      refine k_aload_n E 0 rfl rfl dX3_beginRound_61 ?_
      refine k_get E inX3 0 rfl rfl 12 (by decide) q_687 rfl rfl dX3_beginRound_62 ?_
      exact kw_iret E hr hlk rfl (by rw [hv, show i = 6 by omega]; rfl) (by decide) (by decide) dX3_beginRound_65
    | succ dn32 ih32 =>
      intro i vf hd32 hv
      refine k_iload_n E 1 rfl rfl dX3_beginRound_32 ?_
      refine k_bipush E (v := 6) (by decide) dX3_beginRound_33 ?_
      refine k_icmp_ge E (tgt := 51) (by decide) dX3_beginRound_35 (fun c35 => absurd ((nI_leI (a := 6) (b := i) (by omega) (by omega)).mp c35) (by omega)) (fun c35 => ?_)
      have c35 := (not_congr (nI_leI (a := 6) (b := i) (by omega) (by omega))).mp c35
      refine k_aload_n E 0 rfl rfl dX3_beginRound_38 ?_
      refine k_get E inX3 0 rfl rfl 11 (by decide) q_686 rfl rfl dX3_beginRound_39 ?_
      refine k_iload_n E 1 rfl rfl dX3_beginRound_42 ?_
      refine k_iconst E (v := 0) (by decide) dX3_beginRound_43 ?_
      refine k_zast (y := 0) (j := i) (ws' := (wMO k a (nI dy) rooms tanks bests cows (nI nf) vrooms inv vsh (nI nv) 1 (upd vf i 0) rounds itk farm amount mark ways (nI n) (nI nb) 0)) E 8 2 rfl rfl rfl (by omega) (by decide) (by decide) rfl dX3_beginRound_44 ?_
      refine k_iinc (q := 1) (v := nI (i + 1)) (lv' := [(1, .int (nI (i + 1))), (0, .ref (a 0))]) E rfl (nI_inc _) (by decide) rfl dX3_beginRound_45 ?_
      refine k_goto E (tgt := 32) (by decide) dX3_beginRound_48 ?_
      refine k_lv [1, 0] rfl ?_
      exact ih32 (i + 1) (upd vf i 0) (by omega) (by rw [hv]; exact wr_t (v := fun _ => 0) rfl)
  refine k_lv [1, 0] rfl ?_
  exact L32 (6 - 0) 0 vis (by omega) (wr_0 _ _ _).symm
set_option maxRecDepth 100000 in
set_option maxHeartbeats 4000000 in
theorem m_X3_beginRound_s (l : Launch) (D : va_G) (k : Nat → ClassId) (a : Nat → Nat) (dy : Nat) (rooms : Nat → Int32) (tanks : Nat → Int32) (bests : Nat → Int32) (cows : Nat → Int32) (nf : Nat) (vrooms : Nat → Int32) (inv : Nat → Int32) (vsh : Nat → Int32) (nv : Nat) (ub : Bool) (vis : Nat → Int32) (rounds : Int32) (itk : Int32) (farm : Nat → Int32) (amount : Nat → Int32) (mark : Nat → Int32) (ways : Nat → Int32) (n : Nat) (nb : Nat) (thr : Int32) (hu : ub = true) : mW l yX3_beginRound cX3_beginRound 2 (some .int) 0 0 0 0 D (kTy k) [.ref (a 0)] (wMO k a (nI dy) rooms tanks bests cows (nI nf) vrooms inv vsh (nI nv) (kB ub) vis rounds itk farm amount mark ways (nI n) (nI nb) thr) (some (.int (-1))) (wMO k a (nI dy) rooms tanks bests cows (nI nf) vrooms inv vsh (nI nv) (kB ub) vis rounds itk farm amount mark ways (nI n) (nI nb) 1) := by
  refine mW.of (lv' := [(0, .ref (a 0))]) (by decide) (Nat.le_of_ble_eq_true rfl) rfl ?_
  intro p e s m args below meth c E hr hlk hm hA
  refine k_aload_n E 0 rfl rfl dX3_beginRound_0 ?_
  refine k_aload_n E 0 rfl rfl dX3_beginRound_1 ?_
  refine k_get E inX3 0 rfl rfl 10 (by decide) q_685 rfl rfl dX3_beginRound_2 ?_
  refine k_if_eq E (tgt := 12) (by decide) dX3_beginRound_5 (fun c5 => absurd (kB_f c5) (by rw [hu]; decide)) (fun c5 => ?_)
  have c5 := kB_t c5
  refine k_iconst E (v := 1) (by decide) dX3_beginRound_8 ?_
  refine k_goto E (tgt := 13) (by decide) dX3_beginRound_9 ?_
  refine k_put (ws' := (wMO k a (nI dy) rooms tanks bests cows (nI nf) vrooms inv vsh (nI nv) (kB ub) vis rounds itk farm amount mark ways (nI n) (nI nb) 1)) E inX3 tyX3 tyX3_ok nmX3 0 rfl rfl 20 (by decide) q_695 rfl rfl rfl rfl (Nat.le_of_ble_eq_true rfl) rfl dX3_beginRound_13 ?_
  refine k_aload_n E 0 rfl rfl dX3_beginRound_16 ?_
  refine k_get E inX3 0 rfl rfl 20 (by decide) q_695 rfl rfl dX3_beginRound_17 ?_
  refine k_if_le E (tgt := 25) (by decide) dX3_beginRound_20 (fun h => absurd h (by decide)) (fun _ => ?_)
  refine k_iconst E (v := (-1)) (by decide) dX3_beginRound_23 ?_
  exact kw_iret E hr hlk rfl rfl (by decide) (by decide) dX3_beginRound_24
set_option maxRecDepth 100000 in
set_option maxHeartbeats 4000000 in
theorem m_X3_visit (l : Launch) (D : va_G) (k : Nat → ClassId) (a : Nat → Nat) (dy : Nat) (rooms : Nat → Int32) (tanks : Nat → Int32) (bests : Nat → Int32) (cows : Nat → Int32) (nf : Nat) (vrooms : Nat → Int32) (inv : Nat → Int32) (vsh : Nat → Int32) (nv : Nat) (ub : Bool) (vis : Nat → Int32) (rounds : Int32) (itk : Int32) (farm : Nat → Int32) (amount : Nat → Int32) (mark : Nat → Int32) (ways : Nat → Int32) (n : Nat) (nb : Nat) (thr : Int32) (j : Nat) (hj : j < nf) (hnf : nf ≤ 6) (hu : ub = true) (hv : vis j = 0) (hn1 : n < 100) (hd : 0 < minI (tanks j) (400 - itk)) : mW l yX3_visit cX3_visit 4 (some .int) 2 46 0 0 D (kTy k) [.ref (a 0), .int (nI j)] (wMO k a (nI dy) rooms tanks bests cows (nI nf) vrooms inv vsh (nI nv) (kB ub) vis rounds itk farm amount mark ways (nI n) (nI nb) thr) (some (.int (minI (tanks j) (400 - itk)))) (wMO k a (nI dy) rooms (upd tanks j (tanks j - minI (tanks j) (400 - itk))) bests cows (nI nf) vrooms inv vsh (nI nv) (kB ub) (upd vis j 1) rounds (itk + minI (tanks j) (400 - itk)) (upd farm n (nI j)) (upd amount n (minI (tanks j) (400 - itk))) (upd mark n 45) (upd ways n (-1)) (nI (n + 1)) (nI nb) 0) := by
  refine mW.of (lv' := [(0, .ref (a 0)), (1, .int (nI j))]) (by decide) (Nat.le_of_ble_eq_true rfl) rfl ?_
  intro p e s m args below meth c E hr hlk hm hA
  refine k_aload_n E 0 rfl rfl dX3_visit_0 ?_
  refine k_aload_n E 0 rfl rfl dX3_visit_1 ?_
  refine k_iload_n E 1 rfl rfl dX3_visit_2 ?_
  refine k_callRV [.int (nI j)] E (m_X3_isFarm l D k a dy rooms tanks bests cows nf vrooms inv vsh nv ub vis rounds itk farm amount mark ways n nb thr (nI j)) cf_X3_isFarm q_756 [0, 1, 2, 3, 4, 5, 6, 7, 8, 9, 10, 11, 12] rfl 0 rfl rfl rfl rfl ⟨by decide, by decide⟩ (Nat.le_of_ble_eq_true rfl) ⟨by decide, by decide⟩ dX3_visit_3 ?_
  refine k_steq (st' := [.int (kB (isR (nI j) nf)), .ref (a 0)]) rfl ?_
  refine k_if_ne E (tgt := 13) (by decide) dX3_visit_6 (fun c6 => ?_) (fun c6 => absurd (kB_f c6) (by rw [isR_t hj (by omega)]; decide))
  have c6 := kB_t c6
  refine k_aload_n E 0 rfl rfl dX3_visit_13 ?_
  refine k_get E inX3 0 rfl rfl 10 (by decide) q_685 rfl rfl dX3_visit_14 ?_
  refine k_if_eq E (tgt := 38) (by decide) dX3_visit_17 (fun c17 => absurd (kB_f c17) (by rw [hu]; decide)) (fun c17 => ?_)
  have c17 := kB_t c17
  refine k_aload_n E 0 rfl rfl dX3_visit_20 ?_
  refine k_get E inX3 0 rfl rfl 11 (by decide) q_686 rfl rfl dX3_visit_21 ?_
  refine k_iload_n E 1 rfl rfl dX3_visit_24 ?_
  refine k_zald E (j := j) 8 2 rfl rfl rfl (by omega) (by decide) dX3_visit_25 ?_
  refine k_if_ne E (tgt := 38) (by decide) dX3_visit_26 (fun c26 => absurd c26 (not_not_intro hv)) (fun c26 => ?_)
  refine k_aload_n E 0 rfl rfl dX3_visit_29 ?_
  refine k_get E inX3 0 rfl rfl 18 (by decide) q_693 rfl rfl dX3_visit_30 ?_
  refine k_bipush E (v := 100) (by decide) dX3_visit_33 ?_
  refine k_icmp_ne E (tgt := 42) (by decide) dX3_visit_35 (fun c35 => ?_) (fun c35 => absurd ((nI_eq (a := n) (b := 100) (by omega) (by omega)).mp c35) (by omega))
  have c35 := (not_congr (nI_eq (a := n) (b := 100) (by omega) (by omega))).mp c35
  refine k_iconst E (v := 0) (by decide) dX3_visit_42 ?_
  refine k_put (ws' := (wMO k a (nI dy) rooms tanks bests cows (nI nf) vrooms inv vsh (nI nv) (kB ub) vis rounds itk farm amount mark ways (nI n) (nI nb) 0)) E inX3 tyX3 tyX3_ok nmX3 0 rfl rfl 20 (by decide) q_695 rfl rfl rfl rfl (Nat.le_of_ble_eq_true rfl) rfl dX3_visit_43 ?_
  refine k_aload_n E 0 rfl rfl dX3_visit_46 ?_
  refine k_get E inX3 0 rfl rfl 20 (by decide) q_695 rfl rfl dX3_visit_47 ?_
  refine k_if_le E (tgt := 55) (by decide) dX3_visit_50 (fun _ => ?_) (fun h => absurd (by decide) h)
  refine k_aload_n E 0 rfl rfl dX3_visit_55 ?_
  refine k_get E inX3 0 rfl rfl 11 (by decide) q_686 rfl rfl dX3_visit_56 ?_
  refine k_iload_n E 1 rfl rfl dX3_visit_59 ?_
  refine k_iconst E (v := 1) (by decide) dX3_visit_60 ?_
  refine k_zast (y := 1) (j := j) (ws' := (wMO k a (nI dy) rooms tanks bests cows (nI nf) vrooms inv vsh (nI nv) (kB ub) (upd vis j 1) rounds itk farm amount mark ways (nI n) (nI nb) 0)) E 8 2 rfl rfl rfl (by omega) (by decide) (by decide) rfl dX3_visit_61 ?_
  refine k_sipush E (v := 400) (by decide) dX3_visit_62 ?_
  refine k_aload_n E 0 rfl rfl dX3_visit_65 ?_
  refine k_get E inX3 0 rfl rfl 13 (by decide) q_688 rfl rfl dX3_visit_66 ?_
  refine k_isub E dX3_visit_69 ?_
  refine k_istore_n (lv' := [(2, .int (400 - itk)), (0, .ref (a 0)), (1, .int (nI j))]) E rfl (by decide) rfl dX3_visit_70 ?_
  refine k_aload_n E 1 rfl rfl dX3_visit_71 ?_
  refine k_get E inX3 0 rfl rfl 2 (by decide) q_677 rfl rfl dX3_visit_72 ?_
  refine k_iload_n E 2 rfl rfl dX3_visit_75 ?_
  refine k_iald E (j := j) 2 0 rfl rfl rfl (by omega) (by decide) dX3_visit_76 ?_
  refine k_iload_n E 0 rfl rfl dX3_visit_77 ?_
  refine k_icmp_ge E (tgt := 90) (by decide) dX3_visit_78 (fun c78 => ?_) (fun c78 => ?_)
  · skip
    refine k_iload_n E 0 rfl rfl dX3_visit_90 ?_
    refine k_istore_n (lv' := [(3, .int (400 - itk)), (2, .int (400 - itk)), (0, .ref (a 0)), (1, .int (nI j))]) E rfl (by decide) rfl dX3_visit_91 ?_
    refine k_aload_n E 2 rfl rfl dX3_visit_92 ?_
    refine k_get E inX3 0 rfl rfl 2 (by decide) q_677 rfl rfl dX3_visit_93 ?_
    refine k_iload_n E 3 rfl rfl dX3_visit_96 ?_
    refine k_dup2 E rfl rfl dX3_visit_97 ?_
    refine k_iald E (j := j) 2 0 rfl rfl rfl (by omega) (by decide) dX3_visit_98 ?_
    refine k_iload_n E 0 rfl rfl dX3_visit_99 ?_
    refine k_isub E dX3_visit_100 ?_
    refine k_iast (y := (tanks j) - (400 - itk)) (j := j) (ws' := (wMO k a (nI dy) rooms (upd tanks j ((tanks j) - (400 - itk))) bests cows (nI nf) vrooms inv vsh (nI nv) (kB ub) (upd vis j 1) rounds itk farm amount mark ways (nI n) (nI nb) 0)) E 2 0 rfl rfl rfl (by omega) (by decide) rfl rfl dX3_visit_101 ?_
    refine k_aload_n E 2 rfl rfl dX3_visit_102 ?_
    refine k_dup E rfl dX3_visit_103 ?_
    refine k_get E inX3 0 rfl rfl 13 (by decide) q_688 rfl rfl dX3_visit_104 ?_
    refine k_iload_n E 0 rfl rfl dX3_visit_107 ?_
    refine k_iadd E dX3_visit_108 ?_
    refine k_put (ws' := (wMO k a (nI dy) rooms (upd tanks j ((tanks j) - (400 - itk))) bests cows (nI nf) vrooms inv vsh (nI nv) (kB ub) (upd vis j 1) rounds (itk + (400 - itk)) farm amount mark ways (nI n) (nI nb) 0)) E inX3 tyX3 tyX3_ok nmX3 0 rfl rfl 13 (by decide) q_688 rfl rfl rfl rfl (Nat.le_of_ble_eq_true rfl) rfl dX3_visit_109 ?_
    refine k_iload_n E 0 rfl rfl dX3_visit_112 ?_
    refine k_if_le E (tgt := 167) (by decide) dX3_visit_113 (fun c113 => absurd c113 (Int32.not_le.mpr (by have q9 := hd; first | rwa [minI_r c78] at q9 | rwa [minI_l c78] at q9))) (fun c113 => ?_)
    refine k_aload_n E 2 rfl rfl dX3_visit_116 ?_
    refine k_get E inX3 0 rfl rfl 14 (by decide) q_689 rfl rfl dX3_visit_117 ?_
    refine k_aload_n E 2 rfl rfl dX3_visit_120 ?_
    refine k_get E inX3 0 rfl rfl 18 (by decide) q_693 rfl rfl dX3_visit_121 ?_
    refine k_iload_n E 3 rfl rfl dX3_visit_124 ?_
    refine k_iast (y := nI j) (j := n) (ws' := (wMO k a (nI dy) rooms (upd tanks j ((tanks j) - (400 - itk))) bests cows (nI nf) vrooms inv vsh (nI nv) (kB ub) (upd vis j 1) rounds (itk + (400 - itk)) (upd farm n (nI j)) amount mark ways (nI n) (nI nb) 0)) E 9 0 rfl rfl rfl (by omega) (by decide) rfl rfl dX3_visit_125 ?_
    refine k_aload_n E 2 rfl rfl dX3_visit_126 ?_
    refine k_get E inX3 0 rfl rfl 15 (by decide) q_690 rfl rfl dX3_visit_127 ?_
    refine k_aload_n E 2 rfl rfl dX3_visit_130 ?_
    refine k_get E inX3 0 rfl rfl 18 (by decide) q_693 rfl rfl dX3_visit_131 ?_
    refine k_iload_n E 0 rfl rfl dX3_visit_134 ?_
    refine k_iast (y := 400 - itk) (j := n) (ws' := (wMO k a (nI dy) rooms (upd tanks j ((tanks j) - (400 - itk))) bests cows (nI nf) vrooms inv vsh (nI nv) (kB ub) (upd vis j 1) rounds (itk + (400 - itk)) (upd farm n (nI j)) (upd amount n (400 - itk)) mark ways (nI n) (nI nb) 0)) E 10 0 rfl rfl rfl (by omega) (by decide) rfl rfl dX3_visit_135 ?_
    refine k_aload_n E 2 rfl rfl dX3_visit_136 ?_
    refine k_get E inX3 0 rfl rfl 16 (by decide) q_691 rfl rfl dX3_visit_137 ?_
    refine k_aload_n E 2 rfl rfl dX3_visit_140 ?_
    refine k_get E inX3 0 rfl rfl 18 (by decide) q_693 rfl rfl dX3_visit_141 ?_
    refine k_bipush E (v := 45) (by decide) dX3_visit_144 ?_
    refine k_cast (y := 45) (j := n) (ws' := (wMO k a (nI dy) rooms (upd tanks j ((tanks j) - (400 - itk))) bests cows (nI nf) vrooms inv vsh (nI nv) (kB ub) (upd vis j 1) rounds (itk + (400 - itk)) (upd farm n (nI j)) (upd amount n (400 - itk)) (upd mark n 45) ways (nI n) (nI nb) 0)) E 11 1 rfl rfl rfl (by omega) (by decide) (by decide) rfl dX3_visit_146 ?_
    refine k_aload_n E 2 rfl rfl dX3_visit_147 ?_
    refine k_get E inX3 0 rfl rfl 17 (by decide) q_692 rfl rfl dX3_visit_148 ?_
    refine k_aload_n E 2 rfl rfl dX3_visit_151 ?_
    refine k_get E inX3 0 rfl rfl 18 (by decide) q_693 rfl rfl dX3_visit_152 ?_
    refine k_iconst E (v := (-1)) (by decide) dX3_visit_155 ?_
    refine k_iast (y := (-1)) (j := n) (ws' := (wMO k a (nI dy) rooms (upd tanks j ((tanks j) - (400 - itk))) bests cows (nI nf) vrooms inv vsh (nI nv) (kB ub) (upd vis j 1) rounds (itk + (400 - itk)) (upd farm n (nI j)) (upd amount n (400 - itk)) (upd mark n 45) (upd ways n (-1)) (nI n) (nI nb) 0)) E 12 0 rfl rfl rfl (by omega) (by decide) rfl rfl dX3_visit_156 ?_
    refine k_aload_n E 2 rfl rfl dX3_visit_157 ?_
    refine k_dup E rfl dX3_visit_158 ?_
    refine k_get E inX3 0 rfl rfl 18 (by decide) q_693 rfl rfl dX3_visit_159 ?_
    refine k_iconst E (v := 1) (by decide) dX3_visit_162 ?_
    refine k_iadd E dX3_visit_163 ?_
    refine k_steq (st' := [.int (nI (n + 1)), .ref (a 0)]) (by rw [show (nI n) + 1 = nI (n + 1) from nI_1 n]) ?_
    refine k_put (ws' := (wMO k a (nI dy) rooms (upd tanks j ((tanks j) - (400 - itk))) bests cows (nI nf) vrooms inv vsh (nI nv) (kB ub) (upd vis j 1) rounds (itk + (400 - itk)) (upd farm n (nI j)) (upd amount n (400 - itk)) (upd mark n 45) (upd ways n (-1)) (nI (n + 1)) (nI nb) 0)) E inX3 tyX3 tyX3_ok nmX3 0 rfl rfl 18 (by decide) q_693 rfl rfl rfl rfl (Nat.le_of_ble_eq_true rfl) rfl dX3_visit_164 ?_
    refine k_iload_n E 0 rfl rfl dX3_visit_167 ?_
    exact kw_iret E hr hlk (by first | rw [minI_r c78] | rw [minI_l c78]) (by first | rw [minI_r c78] | rw [minI_l c78]) (by decide) (by decide) dX3_visit_168
  · skip
    refine k_aload_n E 1 rfl rfl dX3_visit_81 ?_
    refine k_get E inX3 0 rfl rfl 2 (by decide) q_677 rfl rfl dX3_visit_82 ?_
    refine k_iload_n E 2 rfl rfl dX3_visit_85 ?_
    refine k_iald E (j := j) 2 0 rfl rfl rfl (by omega) (by decide) dX3_visit_86 ?_
    refine k_goto E (tgt := 91) (by decide) dX3_visit_87 ?_
    refine k_istore_n (lv' := [(3, .int (tanks j)), (2, .int (400 - itk)), (0, .ref (a 0)), (1, .int (nI j))]) E rfl (by decide) rfl dX3_visit_91 ?_
    refine k_aload_n E 2 rfl rfl dX3_visit_92 ?_
    refine k_get E inX3 0 rfl rfl 2 (by decide) q_677 rfl rfl dX3_visit_93 ?_
    refine k_iload_n E 3 rfl rfl dX3_visit_96 ?_
    refine k_dup2 E rfl rfl dX3_visit_97 ?_
    refine k_iald E (j := j) 2 0 rfl rfl rfl (by omega) (by decide) dX3_visit_98 ?_
    refine k_iload_n E 0 rfl rfl dX3_visit_99 ?_
    refine k_isub E dX3_visit_100 ?_
    refine k_iast (y := (tanks j) - (tanks j)) (j := j) (ws' := (wMO k a (nI dy) rooms (upd tanks j ((tanks j) - (tanks j))) bests cows (nI nf) vrooms inv vsh (nI nv) (kB ub) (upd vis j 1) rounds itk farm amount mark ways (nI n) (nI nb) 0)) E 2 0 rfl rfl rfl (by omega) (by decide) rfl rfl dX3_visit_101 ?_
    refine k_aload_n E 2 rfl rfl dX3_visit_102 ?_
    refine k_dup E rfl dX3_visit_103 ?_
    refine k_get E inX3 0 rfl rfl 13 (by decide) q_688 rfl rfl dX3_visit_104 ?_
    refine k_iload_n E 0 rfl rfl dX3_visit_107 ?_
    refine k_iadd E dX3_visit_108 ?_
    refine k_put (ws' := (wMO k a (nI dy) rooms (upd tanks j ((tanks j) - (tanks j))) bests cows (nI nf) vrooms inv vsh (nI nv) (kB ub) (upd vis j 1) rounds (itk + (tanks j)) farm amount mark ways (nI n) (nI nb) 0)) E inX3 tyX3 tyX3_ok nmX3 0 rfl rfl 13 (by decide) q_688 rfl rfl rfl rfl (Nat.le_of_ble_eq_true rfl) rfl dX3_visit_109 ?_
    refine k_iload_n E 0 rfl rfl dX3_visit_112 ?_
    refine k_if_le E (tgt := 167) (by decide) dX3_visit_113 (fun c113 => absurd c113 (Int32.not_le.mpr (by have q9 := hd; first | rwa [minI_r c78] at q9 | rwa [minI_l c78] at q9))) (fun c113 => ?_)
    refine k_aload_n E 2 rfl rfl dX3_visit_116 ?_
    refine k_get E inX3 0 rfl rfl 14 (by decide) q_689 rfl rfl dX3_visit_117 ?_
    refine k_aload_n E 2 rfl rfl dX3_visit_120 ?_
    refine k_get E inX3 0 rfl rfl 18 (by decide) q_693 rfl rfl dX3_visit_121 ?_
    refine k_iload_n E 3 rfl rfl dX3_visit_124 ?_
    refine k_iast (y := nI j) (j := n) (ws' := (wMO k a (nI dy) rooms (upd tanks j ((tanks j) - (tanks j))) bests cows (nI nf) vrooms inv vsh (nI nv) (kB ub) (upd vis j 1) rounds (itk + (tanks j)) (upd farm n (nI j)) amount mark ways (nI n) (nI nb) 0)) E 9 0 rfl rfl rfl (by omega) (by decide) rfl rfl dX3_visit_125 ?_
    refine k_aload_n E 2 rfl rfl dX3_visit_126 ?_
    refine k_get E inX3 0 rfl rfl 15 (by decide) q_690 rfl rfl dX3_visit_127 ?_
    refine k_aload_n E 2 rfl rfl dX3_visit_130 ?_
    refine k_get E inX3 0 rfl rfl 18 (by decide) q_693 rfl rfl dX3_visit_131 ?_
    refine k_iload_n E 0 rfl rfl dX3_visit_134 ?_
    refine k_iast (y := tanks j) (j := n) (ws' := (wMO k a (nI dy) rooms (upd tanks j ((tanks j) - (tanks j))) bests cows (nI nf) vrooms inv vsh (nI nv) (kB ub) (upd vis j 1) rounds (itk + (tanks j)) (upd farm n (nI j)) (upd amount n (tanks j)) mark ways (nI n) (nI nb) 0)) E 10 0 rfl rfl rfl (by omega) (by decide) rfl rfl dX3_visit_135 ?_
    refine k_aload_n E 2 rfl rfl dX3_visit_136 ?_
    refine k_get E inX3 0 rfl rfl 16 (by decide) q_691 rfl rfl dX3_visit_137 ?_
    refine k_aload_n E 2 rfl rfl dX3_visit_140 ?_
    refine k_get E inX3 0 rfl rfl 18 (by decide) q_693 rfl rfl dX3_visit_141 ?_
    refine k_bipush E (v := 45) (by decide) dX3_visit_144 ?_
    refine k_cast (y := 45) (j := n) (ws' := (wMO k a (nI dy) rooms (upd tanks j ((tanks j) - (tanks j))) bests cows (nI nf) vrooms inv vsh (nI nv) (kB ub) (upd vis j 1) rounds (itk + (tanks j)) (upd farm n (nI j)) (upd amount n (tanks j)) (upd mark n 45) ways (nI n) (nI nb) 0)) E 11 1 rfl rfl rfl (by omega) (by decide) (by decide) rfl dX3_visit_146 ?_
    refine k_aload_n E 2 rfl rfl dX3_visit_147 ?_
    refine k_get E inX3 0 rfl rfl 17 (by decide) q_692 rfl rfl dX3_visit_148 ?_
    refine k_aload_n E 2 rfl rfl dX3_visit_151 ?_
    refine k_get E inX3 0 rfl rfl 18 (by decide) q_693 rfl rfl dX3_visit_152 ?_
    refine k_iconst E (v := (-1)) (by decide) dX3_visit_155 ?_
    refine k_iast (y := (-1)) (j := n) (ws' := (wMO k a (nI dy) rooms (upd tanks j ((tanks j) - (tanks j))) bests cows (nI nf) vrooms inv vsh (nI nv) (kB ub) (upd vis j 1) rounds (itk + (tanks j)) (upd farm n (nI j)) (upd amount n (tanks j)) (upd mark n 45) (upd ways n (-1)) (nI n) (nI nb) 0)) E 12 0 rfl rfl rfl (by omega) (by decide) rfl rfl dX3_visit_156 ?_
    refine k_aload_n E 2 rfl rfl dX3_visit_157 ?_
    refine k_dup E rfl dX3_visit_158 ?_
    refine k_get E inX3 0 rfl rfl 18 (by decide) q_693 rfl rfl dX3_visit_159 ?_
    refine k_iconst E (v := 1) (by decide) dX3_visit_162 ?_
    refine k_iadd E dX3_visit_163 ?_
    refine k_steq (st' := [.int (nI (n + 1)), .ref (a 0)]) (by rw [show (nI n) + 1 = nI (n + 1) from nI_1 n]) ?_
    refine k_put (ws' := (wMO k a (nI dy) rooms (upd tanks j ((tanks j) - (tanks j))) bests cows (nI nf) vrooms inv vsh (nI nv) (kB ub) (upd vis j 1) rounds (itk + (tanks j)) (upd farm n (nI j)) (upd amount n (tanks j)) (upd mark n 45) (upd ways n (-1)) (nI (n + 1)) (nI nb) 0)) E inX3 tyX3 tyX3_ok nmX3 0 rfl rfl 18 (by decide) q_693 rfl rfl rfl rfl (Nat.le_of_ble_eq_true rfl) rfl dX3_visit_164 ?_
    refine k_iload_n E 0 rfl rfl dX3_visit_167 ?_
    exact kw_iret E hr hlk (by first | rw [minI_r c78] | rw [minI_l c78]) (by first | rw [minI_r c78] | rw [minI_l c78]) (by decide) (by decide) dX3_visit_168
set_option maxRecDepth 100000 in
set_option maxHeartbeats 4000000 in
theorem m_X3_visit0 (l : Launch) (D : va_G) (k : Nat → ClassId) (a : Nat → Nat) (dy : Nat) (rooms : Nat → Int32) (tanks : Nat → Int32) (bests : Nat → Int32) (cows : Nat → Int32) (nf : Nat) (vrooms : Nat → Int32) (inv : Nat → Int32) (vsh : Nat → Int32) (nv : Nat) (ub : Bool) (vis : Nat → Int32) (rounds : Int32) (itk : Int32) (farm : Nat → Int32) (amount : Nat → Int32) (mark : Nat → Int32) (ways : Nat → Int32) (n : Nat) (nb : Nat) (thr : Int32) (j : Nat) (hj : j < nf) (hnf : nf ≤ 6) (hu : ub = true) (hv : vis j = 0) (hn1 : n < 100) (hd : minI (tanks j) (400 - itk) ≤ 0) : mW l yX3_visit cX3_visit 4 (some .int) 2 46 0 0 D (kTy k) [.ref (a 0), .int (nI j)] (wMO k a (nI dy) rooms tanks bests cows (nI nf) vrooms inv vsh (nI nv) (kB ub) vis rounds itk farm amount mark ways (nI n) (nI nb) thr) (some (.int (minI (tanks j) (400 - itk)))) (wMO k a (nI dy) rooms (upd tanks j (tanks j - minI (tanks j) (400 - itk))) bests cows (nI nf) vrooms inv vsh (nI nv) (kB ub) (upd vis j 1) rounds (itk + minI (tanks j) (400 - itk)) farm amount mark ways (nI n) (nI nb) 0) := by
  refine mW.of (lv' := [(0, .ref (a 0)), (1, .int (nI j))]) (by decide) (Nat.le_of_ble_eq_true rfl) rfl ?_
  intro p e s m args below meth c E hr hlk hm hA
  refine k_aload_n E 0 rfl rfl dX3_visit_0 ?_
  refine k_aload_n E 0 rfl rfl dX3_visit_1 ?_
  refine k_iload_n E 1 rfl rfl dX3_visit_2 ?_
  refine k_callRV [.int (nI j)] E (m_X3_isFarm l D k a dy rooms tanks bests cows nf vrooms inv vsh nv ub vis rounds itk farm amount mark ways n nb thr (nI j)) cf_X3_isFarm q_756 [0, 1, 2, 3, 4, 5, 6, 7, 8, 9, 10, 11, 12] rfl 0 rfl rfl rfl rfl ⟨by decide, by decide⟩ (Nat.le_of_ble_eq_true rfl) ⟨by decide, by decide⟩ dX3_visit_3 ?_
  refine k_steq (st' := [.int (kB (isR (nI j) nf)), .ref (a 0)]) rfl ?_
  refine k_if_ne E (tgt := 13) (by decide) dX3_visit_6 (fun c6 => ?_) (fun c6 => absurd (kB_f c6) (by rw [isR_t hj (by omega)]; decide))
  have c6 := kB_t c6
  refine k_aload_n E 0 rfl rfl dX3_visit_13 ?_
  refine k_get E inX3 0 rfl rfl 10 (by decide) q_685 rfl rfl dX3_visit_14 ?_
  refine k_if_eq E (tgt := 38) (by decide) dX3_visit_17 (fun c17 => absurd (kB_f c17) (by rw [hu]; decide)) (fun c17 => ?_)
  have c17 := kB_t c17
  refine k_aload_n E 0 rfl rfl dX3_visit_20 ?_
  refine k_get E inX3 0 rfl rfl 11 (by decide) q_686 rfl rfl dX3_visit_21 ?_
  refine k_iload_n E 1 rfl rfl dX3_visit_24 ?_
  refine k_zald E (j := j) 8 2 rfl rfl rfl (by omega) (by decide) dX3_visit_25 ?_
  refine k_if_ne E (tgt := 38) (by decide) dX3_visit_26 (fun c26 => absurd c26 (not_not_intro hv)) (fun c26 => ?_)
  refine k_aload_n E 0 rfl rfl dX3_visit_29 ?_
  refine k_get E inX3 0 rfl rfl 18 (by decide) q_693 rfl rfl dX3_visit_30 ?_
  refine k_bipush E (v := 100) (by decide) dX3_visit_33 ?_
  refine k_icmp_ne E (tgt := 42) (by decide) dX3_visit_35 (fun c35 => ?_) (fun c35 => absurd ((nI_eq (a := n) (b := 100) (by omega) (by omega)).mp c35) (by omega))
  have c35 := (not_congr (nI_eq (a := n) (b := 100) (by omega) (by omega))).mp c35
  refine k_iconst E (v := 0) (by decide) dX3_visit_42 ?_
  refine k_put (ws' := (wMO k a (nI dy) rooms tanks bests cows (nI nf) vrooms inv vsh (nI nv) (kB ub) vis rounds itk farm amount mark ways (nI n) (nI nb) 0)) E inX3 tyX3 tyX3_ok nmX3 0 rfl rfl 20 (by decide) q_695 rfl rfl rfl rfl (Nat.le_of_ble_eq_true rfl) rfl dX3_visit_43 ?_
  refine k_aload_n E 0 rfl rfl dX3_visit_46 ?_
  refine k_get E inX3 0 rfl rfl 20 (by decide) q_695 rfl rfl dX3_visit_47 ?_
  refine k_if_le E (tgt := 55) (by decide) dX3_visit_50 (fun _ => ?_) (fun h => absurd (by decide) h)
  refine k_aload_n E 0 rfl rfl dX3_visit_55 ?_
  refine k_get E inX3 0 rfl rfl 11 (by decide) q_686 rfl rfl dX3_visit_56 ?_
  refine k_iload_n E 1 rfl rfl dX3_visit_59 ?_
  refine k_iconst E (v := 1) (by decide) dX3_visit_60 ?_
  refine k_zast (y := 1) (j := j) (ws' := (wMO k a (nI dy) rooms tanks bests cows (nI nf) vrooms inv vsh (nI nv) (kB ub) (upd vis j 1) rounds itk farm amount mark ways (nI n) (nI nb) 0)) E 8 2 rfl rfl rfl (by omega) (by decide) (by decide) rfl dX3_visit_61 ?_
  refine k_sipush E (v := 400) (by decide) dX3_visit_62 ?_
  refine k_aload_n E 0 rfl rfl dX3_visit_65 ?_
  refine k_get E inX3 0 rfl rfl 13 (by decide) q_688 rfl rfl dX3_visit_66 ?_
  refine k_isub E dX3_visit_69 ?_
  refine k_istore_n (lv' := [(2, .int (400 - itk)), (0, .ref (a 0)), (1, .int (nI j))]) E rfl (by decide) rfl dX3_visit_70 ?_
  refine k_aload_n E 1 rfl rfl dX3_visit_71 ?_
  refine k_get E inX3 0 rfl rfl 2 (by decide) q_677 rfl rfl dX3_visit_72 ?_
  refine k_iload_n E 2 rfl rfl dX3_visit_75 ?_
  refine k_iald E (j := j) 2 0 rfl rfl rfl (by omega) (by decide) dX3_visit_76 ?_
  refine k_iload_n E 0 rfl rfl dX3_visit_77 ?_
  refine k_icmp_ge E (tgt := 90) (by decide) dX3_visit_78 (fun c78 => ?_) (fun c78 => ?_)
  · skip
    refine k_iload_n E 0 rfl rfl dX3_visit_90 ?_
    refine k_istore_n (lv' := [(3, .int (400 - itk)), (2, .int (400 - itk)), (0, .ref (a 0)), (1, .int (nI j))]) E rfl (by decide) rfl dX3_visit_91 ?_
    refine k_aload_n E 2 rfl rfl dX3_visit_92 ?_
    refine k_get E inX3 0 rfl rfl 2 (by decide) q_677 rfl rfl dX3_visit_93 ?_
    refine k_iload_n E 3 rfl rfl dX3_visit_96 ?_
    refine k_dup2 E rfl rfl dX3_visit_97 ?_
    refine k_iald E (j := j) 2 0 rfl rfl rfl (by omega) (by decide) dX3_visit_98 ?_
    refine k_iload_n E 0 rfl rfl dX3_visit_99 ?_
    refine k_isub E dX3_visit_100 ?_
    refine k_iast (y := (tanks j) - (400 - itk)) (j := j) (ws' := (wMO k a (nI dy) rooms (upd tanks j ((tanks j) - (400 - itk))) bests cows (nI nf) vrooms inv vsh (nI nv) (kB ub) (upd vis j 1) rounds itk farm amount mark ways (nI n) (nI nb) 0)) E 2 0 rfl rfl rfl (by omega) (by decide) rfl rfl dX3_visit_101 ?_
    refine k_aload_n E 2 rfl rfl dX3_visit_102 ?_
    refine k_dup E rfl dX3_visit_103 ?_
    refine k_get E inX3 0 rfl rfl 13 (by decide) q_688 rfl rfl dX3_visit_104 ?_
    refine k_iload_n E 0 rfl rfl dX3_visit_107 ?_
    refine k_iadd E dX3_visit_108 ?_
    refine k_put (ws' := (wMO k a (nI dy) rooms (upd tanks j ((tanks j) - (400 - itk))) bests cows (nI nf) vrooms inv vsh (nI nv) (kB ub) (upd vis j 1) rounds (itk + (400 - itk)) farm amount mark ways (nI n) (nI nb) 0)) E inX3 tyX3 tyX3_ok nmX3 0 rfl rfl 13 (by decide) q_688 rfl rfl rfl rfl (Nat.le_of_ble_eq_true rfl) rfl dX3_visit_109 ?_
    refine k_iload_n E 0 rfl rfl dX3_visit_112 ?_
    refine k_if_le E (tgt := 167) (by decide) dX3_visit_113 (fun c113 => ?_) (fun c113 => absurd c113 (not_not_intro (by have q9 := hd; first | rwa [minI_r c78] at q9 | rwa [minI_l c78] at q9)))
    refine k_iload_n E 0 rfl rfl dX3_visit_167 ?_
    exact kw_iret E hr hlk (by first | rw [minI_r c78] | rw [minI_l c78]) (by first | rw [minI_r c78] | rw [minI_l c78]) (by decide) (by decide) dX3_visit_168
  · skip
    refine k_aload_n E 1 rfl rfl dX3_visit_81 ?_
    refine k_get E inX3 0 rfl rfl 2 (by decide) q_677 rfl rfl dX3_visit_82 ?_
    refine k_iload_n E 2 rfl rfl dX3_visit_85 ?_
    refine k_iald E (j := j) 2 0 rfl rfl rfl (by omega) (by decide) dX3_visit_86 ?_
    refine k_goto E (tgt := 91) (by decide) dX3_visit_87 ?_
    refine k_istore_n (lv' := [(3, .int (tanks j)), (2, .int (400 - itk)), (0, .ref (a 0)), (1, .int (nI j))]) E rfl (by decide) rfl dX3_visit_91 ?_
    refine k_aload_n E 2 rfl rfl dX3_visit_92 ?_
    refine k_get E inX3 0 rfl rfl 2 (by decide) q_677 rfl rfl dX3_visit_93 ?_
    refine k_iload_n E 3 rfl rfl dX3_visit_96 ?_
    refine k_dup2 E rfl rfl dX3_visit_97 ?_
    refine k_iald E (j := j) 2 0 rfl rfl rfl (by omega) (by decide) dX3_visit_98 ?_
    refine k_iload_n E 0 rfl rfl dX3_visit_99 ?_
    refine k_isub E dX3_visit_100 ?_
    refine k_iast (y := (tanks j) - (tanks j)) (j := j) (ws' := (wMO k a (nI dy) rooms (upd tanks j ((tanks j) - (tanks j))) bests cows (nI nf) vrooms inv vsh (nI nv) (kB ub) (upd vis j 1) rounds itk farm amount mark ways (nI n) (nI nb) 0)) E 2 0 rfl rfl rfl (by omega) (by decide) rfl rfl dX3_visit_101 ?_
    refine k_aload_n E 2 rfl rfl dX3_visit_102 ?_
    refine k_dup E rfl dX3_visit_103 ?_
    refine k_get E inX3 0 rfl rfl 13 (by decide) q_688 rfl rfl dX3_visit_104 ?_
    refine k_iload_n E 0 rfl rfl dX3_visit_107 ?_
    refine k_iadd E dX3_visit_108 ?_
    refine k_put (ws' := (wMO k a (nI dy) rooms (upd tanks j ((tanks j) - (tanks j))) bests cows (nI nf) vrooms inv vsh (nI nv) (kB ub) (upd vis j 1) rounds (itk + (tanks j)) farm amount mark ways (nI n) (nI nb) 0)) E inX3 tyX3 tyX3_ok nmX3 0 rfl rfl 13 (by decide) q_688 rfl rfl rfl rfl (Nat.le_of_ble_eq_true rfl) rfl dX3_visit_109 ?_
    refine k_iload_n E 0 rfl rfl dX3_visit_112 ?_
    refine k_if_le E (tgt := 167) (by decide) dX3_visit_113 (fun c113 => ?_) (fun c113 => absurd c113 (not_not_intro (by have q9 := hd; first | rwa [minI_r c78] at q9 | rwa [minI_l c78] at q9)))
    refine k_iload_n E 0 rfl rfl dX3_visit_167 ?_
    exact kw_iret E hr hlk (by first | rw [minI_r c78] | rw [minI_l c78]) (by first | rw [minI_r c78] | rw [minI_l c78]) (by decide) (by decide) dX3_visit_168
set_option maxRecDepth 100000 in
set_option maxHeartbeats 4000000 in
theorem m_X3_visit_i (l : Launch) (D : va_G) (k : Nat → ClassId) (a : Nat → Nat) (dy : Nat) (rooms : Nat → Int32) (tanks : Nat → Int32) (bests : Nat → Int32) (cows : Nat → Int32) (nf : Nat) (vrooms : Nat → Int32) (inv : Nat → Int32) (vsh : Nat → Int32) (nv : Nat) (ub : Bool) (vis : Nat → Int32) (rounds : Int32) (itk : Int32) (farm : Nat → Int32) (amount : Nat → Int32) (mark : Nat → Int32) (ways : Nat → Int32) (n : Nat) (nb : Nat) (thr : Int32) (fa : Int32) (hb : fa < 0 ∨ nI nf ≤ fa) (hnf : nf ≤ 6) : mW l yX3_visit cX3_visit 4 (some .int) 2 46 0 0 D (kTy k) [.ref (a 0), .int fa] (wMO k a (nI dy) rooms tanks bests cows (nI nf) vrooms inv vsh (nI nv) (kB ub) vis rounds itk farm amount mark ways (nI n) (nI nb) thr) (some (.int (-1))) (wMO k a (nI dy) rooms tanks bests cows (nI nf) vrooms inv vsh (nI nv) (kB ub) vis rounds itk farm amount mark ways (nI n) (nI nb) 1) := by
  refine mW.of (lv' := [(0, .ref (a 0)), (1, .int fa)]) (by decide) (Nat.le_of_ble_eq_true rfl) rfl ?_
  intro p e s m args below meth c E hr hlk hm hA
  refine k_aload_n E 0 rfl rfl dX3_visit_0 ?_
  refine k_aload_n E 0 rfl rfl dX3_visit_1 ?_
  refine k_iload_n E 1 rfl rfl dX3_visit_2 ?_
  refine k_callRV [.int fa] E (m_X3_isFarm l D k a dy rooms tanks bests cows nf vrooms inv vsh nv ub vis rounds itk farm amount mark ways n nb thr fa) cf_X3_isFarm q_756 [0, 1, 2, 3, 4, 5, 6, 7, 8, 9, 10, 11, 12] rfl 0 rfl rfl rfl rfl ⟨by decide, by decide⟩ (Nat.le_of_ble_eq_true rfl) ⟨by decide, by decide⟩ dX3_visit_3 ?_
  refine k_steq (st' := [.int (kB (isR fa nf)), .ref (a 0)]) rfl ?_
  refine k_if_ne E (tgt := 13) (by decide) dX3_visit_6 (fun c6 => absurd (kB_t c6) (by rw [isR_f hb (by omega)]; decide)) (fun c6 => ?_)
  have c6 := kB_f c6
  refine k_iconst E (v := 1) (by decide) dX3_visit_9 ?_
  refine k_goto E (tgt := 43) (by decide) dX3_visit_10 ?_
  refine k_put (ws' := (wMO k a (nI dy) rooms tanks bests cows (nI nf) vrooms inv vsh (nI nv) (kB ub) vis rounds itk farm amount mark ways (nI n) (nI nb) 1)) E inX3 tyX3 tyX3_ok nmX3 0 rfl rfl 20 (by decide) q_695 rfl rfl rfl rfl (Nat.le_of_ble_eq_true rfl) rfl dX3_visit_43 ?_
  refine k_aload_n E 0 rfl rfl dX3_visit_46 ?_
  refine k_get E inX3 0 rfl rfl 20 (by decide) q_695 rfl rfl dX3_visit_47 ?_
  refine k_if_le E (tgt := 55) (by decide) dX3_visit_50 (fun h => absurd h (by decide)) (fun _ => ?_)
  refine k_iconst E (v := (-1)) (by decide) dX3_visit_53 ?_
  exact kw_iret E hr hlk rfl rfl (by decide) (by decide) dX3_visit_54
set_option maxRecDepth 100000 in
set_option maxHeartbeats 4000000 in
theorem m_X3_visit_s1 (l : Launch) (D : va_G) (k : Nat → ClassId) (a : Nat → Nat) (dy : Nat) (rooms : Nat → Int32) (tanks : Nat → Int32) (bests : Nat → Int32) (cows : Nat → Int32) (nf : Nat) (vrooms : Nat → Int32) (inv : Nat → Int32) (vsh : Nat → Int32) (nv : Nat) (ub : Bool) (vis : Nat → Int32) (rounds : Int32) (itk : Int32) (farm : Nat → Int32) (amount : Nat → Int32) (mark : Nat → Int32) (ways : Nat → Int32) (n : Nat) (nb : Nat) (thr : Int32) (j : Nat) (hj : j < nf) (hnf : nf ≤ 6) (hu : ub = false) : mW l yX3_visit cX3_visit 4 (some .int) 2 46 0 0 D (kTy k) [.ref (a 0), .int (nI j)] (wMO k a (nI dy) rooms tanks bests cows (nI nf) vrooms inv vsh (nI nv) (kB ub) vis rounds itk farm amount mark ways (nI n) (nI nb) thr) (some (.int (-1))) (wMO k a (nI dy) rooms tanks bests cows (nI nf) vrooms inv vsh (nI nv) (kB ub) vis rounds itk farm amount mark ways (nI n) (nI nb) 2) := by
  refine mW.of (lv' := [(0, .ref (a 0)), (1, .int (nI j))]) (by decide) (Nat.le_of_ble_eq_true rfl) rfl ?_
  intro p e s m args below meth c E hr hlk hm hA
  refine k_aload_n E 0 rfl rfl dX3_visit_0 ?_
  refine k_aload_n E 0 rfl rfl dX3_visit_1 ?_
  refine k_iload_n E 1 rfl rfl dX3_visit_2 ?_
  refine k_callRV [.int (nI j)] E (m_X3_isFarm l D k a dy rooms tanks bests cows nf vrooms inv vsh nv ub vis rounds itk farm amount mark ways n nb thr (nI j)) cf_X3_isFarm q_756 [0, 1, 2, 3, 4, 5, 6, 7, 8, 9, 10, 11, 12] rfl 0 rfl rfl rfl rfl ⟨by decide, by decide⟩ (Nat.le_of_ble_eq_true rfl) ⟨by decide, by decide⟩ dX3_visit_3 ?_
  refine k_steq (st' := [.int (kB (isR (nI j) nf)), .ref (a 0)]) rfl ?_
  refine k_if_ne E (tgt := 13) (by decide) dX3_visit_6 (fun c6 => ?_) (fun c6 => absurd (kB_f c6) (by rw [isR_t hj (by omega)]; decide))
  have c6 := kB_t c6
  refine k_aload_n E 0 rfl rfl dX3_visit_13 ?_
  refine k_get E inX3 0 rfl rfl 10 (by decide) q_685 rfl rfl dX3_visit_14 ?_
  refine k_if_eq E (tgt := 38) (by decide) dX3_visit_17 (fun c17 => ?_) (fun c17 => absurd (kB_t c17) (by rw [hu]; decide))
  have c17 := kB_f c17
  refine k_iconst E (v := 2) (by decide) dX3_visit_38 ?_
  refine k_goto E (tgt := 43) (by decide) dX3_visit_39 ?_
  refine k_put (ws' := (wMO k a (nI dy) rooms tanks bests cows (nI nf) vrooms inv vsh (nI nv) (kB ub) vis rounds itk farm amount mark ways (nI n) (nI nb) 2)) E inX3 tyX3 tyX3_ok nmX3 0 rfl rfl 20 (by decide) q_695 rfl rfl rfl rfl (Nat.le_of_ble_eq_true rfl) rfl dX3_visit_43 ?_
  refine k_aload_n E 0 rfl rfl dX3_visit_46 ?_
  refine k_get E inX3 0 rfl rfl 20 (by decide) q_695 rfl rfl dX3_visit_47 ?_
  refine k_if_le E (tgt := 55) (by decide) dX3_visit_50 (fun h => absurd h (by decide)) (fun _ => ?_)
  refine k_iconst E (v := (-1)) (by decide) dX3_visit_53 ?_
  exact kw_iret E hr hlk rfl rfl (by decide) (by decide) dX3_visit_54
set_option maxRecDepth 100000 in
set_option maxHeartbeats 4000000 in
theorem m_X3_visit_s2 (l : Launch) (D : va_G) (k : Nat → ClassId) (a : Nat → Nat) (dy : Nat) (rooms : Nat → Int32) (tanks : Nat → Int32) (bests : Nat → Int32) (cows : Nat → Int32) (nf : Nat) (vrooms : Nat → Int32) (inv : Nat → Int32) (vsh : Nat → Int32) (nv : Nat) (ub : Bool) (vis : Nat → Int32) (rounds : Int32) (itk : Int32) (farm : Nat → Int32) (amount : Nat → Int32) (mark : Nat → Int32) (ways : Nat → Int32) (n : Nat) (nb : Nat) (thr : Int32) (j : Nat) (hj : j < nf) (hnf : nf ≤ 6) (hu : ub = true) (hv : ¬ vis j = 0) : mW l yX3_visit cX3_visit 4 (some .int) 2 46 0 0 D (kTy k) [.ref (a 0), .int (nI j)] (wMO k a (nI dy) rooms tanks bests cows (nI nf) vrooms inv vsh (nI nv) (kB ub) vis rounds itk farm amount mark ways (nI n) (nI nb) thr) (some (.int (-1))) (wMO k a (nI dy) rooms tanks bests cows (nI nf) vrooms inv vsh (nI nv) (kB ub) vis rounds itk farm amount mark ways (nI n) (nI nb) 2) := by
  refine mW.of (lv' := [(0, .ref (a 0)), (1, .int (nI j))]) (by decide) (Nat.le_of_ble_eq_true rfl) rfl ?_
  intro p e s m args below meth c E hr hlk hm hA
  refine k_aload_n E 0 rfl rfl dX3_visit_0 ?_
  refine k_aload_n E 0 rfl rfl dX3_visit_1 ?_
  refine k_iload_n E 1 rfl rfl dX3_visit_2 ?_
  refine k_callRV [.int (nI j)] E (m_X3_isFarm l D k a dy rooms tanks bests cows nf vrooms inv vsh nv ub vis rounds itk farm amount mark ways n nb thr (nI j)) cf_X3_isFarm q_756 [0, 1, 2, 3, 4, 5, 6, 7, 8, 9, 10, 11, 12] rfl 0 rfl rfl rfl rfl ⟨by decide, by decide⟩ (Nat.le_of_ble_eq_true rfl) ⟨by decide, by decide⟩ dX3_visit_3 ?_
  refine k_steq (st' := [.int (kB (isR (nI j) nf)), .ref (a 0)]) rfl ?_
  refine k_if_ne E (tgt := 13) (by decide) dX3_visit_6 (fun c6 => ?_) (fun c6 => absurd (kB_f c6) (by rw [isR_t hj (by omega)]; decide))
  have c6 := kB_t c6
  refine k_aload_n E 0 rfl rfl dX3_visit_13 ?_
  refine k_get E inX3 0 rfl rfl 10 (by decide) q_685 rfl rfl dX3_visit_14 ?_
  refine k_if_eq E (tgt := 38) (by decide) dX3_visit_17 (fun c17 => absurd (kB_f c17) (by rw [hu]; decide)) (fun c17 => ?_)
  have c17 := kB_t c17
  refine k_aload_n E 0 rfl rfl dX3_visit_20 ?_
  refine k_get E inX3 0 rfl rfl 11 (by decide) q_686 rfl rfl dX3_visit_21 ?_
  refine k_iload_n E 1 rfl rfl dX3_visit_24 ?_
  refine k_zald E (j := j) 8 2 rfl rfl rfl (by omega) (by decide) dX3_visit_25 ?_
  refine k_if_ne E (tgt := 38) (by decide) dX3_visit_26 (fun c26 => ?_) (fun c26 => absurd c26 hv)
  refine k_iconst E (v := 2) (by decide) dX3_visit_38 ?_
  refine k_goto E (tgt := 43) (by decide) dX3_visit_39 ?_
  refine k_put (ws' := (wMO k a (nI dy) rooms tanks bests cows (nI nf) vrooms inv vsh (nI nv) (kB ub) vis rounds itk farm amount mark ways (nI n) (nI nb) 2)) E inX3 tyX3 tyX3_ok nmX3 0 rfl rfl 20 (by decide) q_695 rfl rfl rfl rfl (Nat.le_of_ble_eq_true rfl) rfl dX3_visit_43 ?_
  refine k_aload_n E 0 rfl rfl dX3_visit_46 ?_
  refine k_get E inX3 0 rfl rfl 20 (by decide) q_695 rfl rfl dX3_visit_47 ?_
  refine k_if_le E (tgt := 55) (by decide) dX3_visit_50 (fun h => absurd h (by decide)) (fun _ => ?_)
  refine k_iconst E (v := (-1)) (by decide) dX3_visit_53 ?_
  exact kw_iret E hr hlk rfl rfl (by decide) (by decide) dX3_visit_54
set_option maxRecDepth 100000 in
set_option maxHeartbeats 4000000 in
theorem m_X3_visit_s3 (l : Launch) (D : va_G) (k : Nat → ClassId) (a : Nat → Nat) (dy : Nat) (rooms : Nat → Int32) (tanks : Nat → Int32) (bests : Nat → Int32) (cows : Nat → Int32) (nf : Nat) (vrooms : Nat → Int32) (inv : Nat → Int32) (vsh : Nat → Int32) (nv : Nat) (ub : Bool) (vis : Nat → Int32) (rounds : Int32) (itk : Int32) (farm : Nat → Int32) (amount : Nat → Int32) (mark : Nat → Int32) (ways : Nat → Int32) (n : Nat) (nb : Nat) (thr : Int32) (j : Nat) (hj : j < nf) (hnf : nf ≤ 6) (hu : ub = true) (hv : vis j = 0) (hn1 : n = 100) : mW l yX3_visit cX3_visit 4 (some .int) 2 46 0 0 D (kTy k) [.ref (a 0), .int (nI j)] (wMO k a (nI dy) rooms tanks bests cows (nI nf) vrooms inv vsh (nI nv) (kB ub) vis rounds itk farm amount mark ways (nI n) (nI nb) thr) (some (.int (-1))) (wMO k a (nI dy) rooms tanks bests cows (nI nf) vrooms inv vsh (nI nv) (kB ub) vis rounds itk farm amount mark ways (nI n) (nI nb) 2) := by
  refine mW.of (lv' := [(0, .ref (a 0)), (1, .int (nI j))]) (by decide) (Nat.le_of_ble_eq_true rfl) rfl ?_
  intro p e s m args below meth c E hr hlk hm hA
  refine k_aload_n E 0 rfl rfl dX3_visit_0 ?_
  refine k_aload_n E 0 rfl rfl dX3_visit_1 ?_
  refine k_iload_n E 1 rfl rfl dX3_visit_2 ?_
  refine k_callRV [.int (nI j)] E (m_X3_isFarm l D k a dy rooms tanks bests cows nf vrooms inv vsh nv ub vis rounds itk farm amount mark ways n nb thr (nI j)) cf_X3_isFarm q_756 [0, 1, 2, 3, 4, 5, 6, 7, 8, 9, 10, 11, 12] rfl 0 rfl rfl rfl rfl ⟨by decide, by decide⟩ (Nat.le_of_ble_eq_true rfl) ⟨by decide, by decide⟩ dX3_visit_3 ?_
  refine k_steq (st' := [.int (kB (isR (nI j) nf)), .ref (a 0)]) rfl ?_
  refine k_if_ne E (tgt := 13) (by decide) dX3_visit_6 (fun c6 => ?_) (fun c6 => absurd (kB_f c6) (by rw [isR_t hj (by omega)]; decide))
  have c6 := kB_t c6
  refine k_aload_n E 0 rfl rfl dX3_visit_13 ?_
  refine k_get E inX3 0 rfl rfl 10 (by decide) q_685 rfl rfl dX3_visit_14 ?_
  refine k_if_eq E (tgt := 38) (by decide) dX3_visit_17 (fun c17 => absurd (kB_f c17) (by rw [hu]; decide)) (fun c17 => ?_)
  have c17 := kB_t c17
  refine k_aload_n E 0 rfl rfl dX3_visit_20 ?_
  refine k_get E inX3 0 rfl rfl 11 (by decide) q_686 rfl rfl dX3_visit_21 ?_
  refine k_iload_n E 1 rfl rfl dX3_visit_24 ?_
  refine k_zald E (j := j) 8 2 rfl rfl rfl (by omega) (by decide) dX3_visit_25 ?_
  refine k_if_ne E (tgt := 38) (by decide) dX3_visit_26 (fun c26 => absurd c26 (not_not_intro hv)) (fun c26 => ?_)
  refine k_aload_n E 0 rfl rfl dX3_visit_29 ?_
  refine k_get E inX3 0 rfl rfl 18 (by decide) q_693 rfl rfl dX3_visit_30 ?_
  refine k_bipush E (v := 100) (by decide) dX3_visit_33 ?_
  refine k_icmp_ne E (tgt := 42) (by decide) dX3_visit_35 (fun c35 => absurd ((not_congr (nI_eq (a := n) (b := 100) (by omega) (by omega))).mp c35) (by omega)) (fun c35 => ?_)
  have c35 := (nI_eq (a := n) (b := 100) (by omega) (by omega)).mp c35
  refine k_iconst E (v := 2) (by decide) dX3_visit_38 ?_
  refine k_goto E (tgt := 43) (by decide) dX3_visit_39 ?_
  refine k_put (ws' := (wMO k a (nI dy) rooms tanks bests cows (nI nf) vrooms inv vsh (nI nv) (kB ub) vis rounds itk farm amount mark ways (nI n) (nI nb) 2)) E inX3 tyX3 tyX3_ok nmX3 0 rfl rfl 20 (by decide) q_695 rfl rfl rfl rfl (Nat.le_of_ble_eq_true rfl) rfl dX3_visit_43 ?_
  refine k_aload_n E 0 rfl rfl dX3_visit_46 ?_
  refine k_get E inX3 0 rfl rfl 20 (by decide) q_695 rfl rfl dX3_visit_47 ?_
  refine k_if_le E (tgt := 55) (by decide) dX3_visit_50 (fun h => absurd h (by decide)) (fun _ => ?_)
  refine k_iconst E (v := (-1)) (by decide) dX3_visit_53 ?_
  exact kw_iret E hr hlk rfl rfl (by decide) (by decide) dX3_visit_54
set_option maxRecDepth 100000 in
set_option maxHeartbeats 4000000 in
theorem m_X3_onWay (l : Launch) (D : va_G) (k : Nat → ClassId) (a : Nat → Nat) (dy : Nat) (rooms : Nat → Int32) (tanks : Nat → Int32) (bests : Nat → Int32) (cows : Nat → Int32) (nf : Nat) (vrooms : Nat → Int32) (inv : Nat → Int32) (vsh : Nat → Int32) (nv : Nat) (ub : Bool) (vis : Nat → Int32) (rounds : Int32) (itk : Int32) (farm : Nat → Int32) (amount : Nat → Int32) (mark : Nat → Int32) (ways : Nat → Int32) (n : Nat) (nb : Nat) (thr : Int32) (wy : Int32) (hn : n ≤ 100) : mR l yX3_onWay cX3_onWay 4 (some .int) 0 0 D (kTy k) [.ref (a 0), .int wy] (wMO k a (nI dy) rooms tanks bests cows (nI nf) vrooms inv vsh (nI nv) (kB ub) vis rounds itk farm amount mark ways (nI n) (nI nb) thr) (some (.int (sI (fun zi => decide (ways zi = wy)) (fun _ => 1) n))) := by
  refine mR.of (lv' := [(0, .ref (a 0)), (1, .int wy)]) (by decide) (Nat.le_of_ble_eq_true rfl) rfl ?_
  intro p e s m args below meth c E hr hlk
  refine k_iconst E (v := 0) (by decide) dX3_onWay_0 ?_
  refine k_istore_n (lv' := [(2, .int 0), (0, .ref (a 0)), (1, .int wy)]) E rfl (by decide) rfl dX3_onWay_1 ?_
  refine k_iconst E (v := 0) (by decide) dX3_onWay_2 ?_
  refine k_istore_n (lv' := [(3, .int 0), (2, .int 0), (0, .ref (a 0)), (1, .int wy)]) E rfl (by decide) rfl dX3_onWay_3 ?_
  have L4 : ∀ (dn4 : Nat) (i : Nat) (x : Int32), i + dn4 = n → (x = sI (fun zi => decide (ways zi = wy)) (fun _ => 1) i) → kJ p l e (kRm 0 0) s m args below meth c (gR D s.heap) 4 0 0 (MQ below (kQr (some (.int (sI (fun zi => decide (ways zi = wy)) (fun _ => 1) n)))) args s 0 0 (fun _ => False)) (wMO k a (nI dy) rooms tanks bests cows (nI nf) vrooms inv vsh (nI nv) (kB ub) vis rounds itk farm amount mark ways (nI n) (nI nb) thr) 4 [(0, .ref (a 0)), (1, .int wy), (2, .int x), (3, .int (nI i))] [] := by
    intro dn4
    induction dn4 with
    | zero =>
      intro i x hd4 hx
      refine k_iload_n E 3 rfl rfl dX3_onWay_4 ?_
      refine k_aload_n E 0 rfl rfl dX3_onWay_5 ?_
      refine k_get E inX3 0 rfl rfl 18 (by decide) q_693 rfl rfl dX3_onWay_6 ?_
      refine k_icmp_ge E (tgt := 36) (by decide) dX3_onWay_9 (fun c9 => ?_) (fun c9 => absurd ((not_congr (nI_leI (a := n) (b := i) (by omega) (by omega))).mp c9) (by omega))
      have c9 := (nI_leI (a := n) (b := i) (by omega) (by omega)).mp c9
      refine k_iload_n E 2 rfl rfl dX3_onWay_36 ?_
      exact kr_iret E hr hlk (by rw [hx, show i = n by omega]) dX3_onWay_37
    | succ dn4 ih4 =>
      intro i x hd4 hx
      refine k_iload_n E 3 rfl rfl dX3_onWay_4 ?_
      refine k_aload_n E 0 rfl rfl dX3_onWay_5 ?_
      refine k_get E inX3 0 rfl rfl 18 (by decide) q_693 rfl rfl dX3_onWay_6 ?_
      refine k_icmp_ge E (tgt := 36) (by decide) dX3_onWay_9 (fun c9 => absurd ((nI_leI (a := n) (b := i) (by omega) (by omega)).mp c9) (by omega)) (fun c9 => ?_)
      have c9 := (not_congr (nI_leI (a := n) (b := i) (by omega) (by omega))).mp c9
      refine k_iload_n E 2 rfl rfl dX3_onWay_12 ?_
      refine k_aload_n E 0 rfl rfl dX3_onWay_13 ?_
      refine k_get E inX3 0 rfl rfl 17 (by decide) q_692 rfl rfl dX3_onWay_14 ?_
      refine k_iload_n E 3 rfl rfl dX3_onWay_17 ?_
      refine k_iald E (j := i) 12 0 rfl rfl rfl (by omega) (by decide) dX3_onWay_18 ?_
      refine k_iload_n E 1 rfl rfl dX3_onWay_19 ?_
      refine k_icmp_ne E (tgt := 27) (by decide) dX3_onWay_20 (fun c20 => ?_) (fun c20 => ?_)
      · skip
        refine k_iconst E (v := 0) (by decide) dX3_onWay_27 ?_
        refine k_iadd E dX3_onWay_28 ?_
        refine k_istore_n (lv' := [(2, .int (x + 0)), (0, .ref (a 0)), (1, .int wy), (3, .int (nI i))]) E rfl (by decide) rfl dX3_onWay_29 ?_
        refine k_iinc (q := 3) (v := nI (i + 1)) (lv' := [(3, .int (nI (i + 1))), (2, .int (x + 0)), (0, .ref (a 0)), (1, .int wy)]) E rfl (nI_inc _) (by decide) rfl dX3_onWay_30 ?_
        refine k_goto E (tgt := 4) (by decide) dX3_onWay_33 ?_
        refine k_lv [2, 3, 1, 0] rfl ?_
        exact ih4 (i + 1) (x + 0) (by omega) (by simp [sI, *])
      · skip
        refine k_iconst E (v := 1) (by decide) dX3_onWay_23 ?_
        refine k_goto E (tgt := 28) (by decide) dX3_onWay_24 ?_
        refine k_iadd E dX3_onWay_28 ?_
        refine k_istore_n (lv' := [(2, .int (x + 1)), (0, .ref (a 0)), (1, .int wy), (3, .int (nI i))]) E rfl (by decide) rfl dX3_onWay_29 ?_
        refine k_iinc (q := 3) (v := nI (i + 1)) (lv' := [(3, .int (nI (i + 1))), (2, .int (x + 1)), (0, .ref (a 0)), (1, .int wy)]) E rfl (nI_inc _) (by decide) rfl dX3_onWay_30 ?_
        refine k_goto E (tgt := 4) (by decide) dX3_onWay_33 ?_
        refine k_lv [2, 3, 1, 0] rfl ?_
        exact ih4 (i + 1) (x + 1) (by omega) (by simp [sI, *])
  refine k_lv [2, 3, 1, 0] rfl ?_
  exact L4 (n - 0) 0 0 (by omega) rfl
set_option maxRecDepth 100000 in
set_option maxHeartbeats 4000000 in
theorem m_X3_endRound (l : Launch) (D : va_G) (k : Nat → ClassId) (a : Nat → Nat) (dy : Nat) (rooms : Nat → Int32) (tanks : Nat → Int32) (bests : Nat → Int32) (cows : Nat → Int32) (nf : Nat) (vrooms : Nat → Int32) (inv : Nat → Int32) (vsh : Nat → Int32) (nv : Nat) (ub : Bool) (vis : Nat → Int32) (rounds : Int32) (itk : Int32) (farm : Nat → Int32) (amount : Nat → Int32) (mark : Nat → Int32) (ways : Nat → Int32) (n : Nat) (nb : Nat) (thr : Int32) (j : Nat) (hj : j < nv) (hnv : nv ≤ 4) (hn : n ≤ 100) (hu : ub = true) (hr0 : inv j + itk ≤ vrooms j) (hs0 : vsh j + sI (fun zi => decide (ways zi = (-1))) (fun _ => 1) n ≤ 60) : mW l yX3_endRound cX3_endRound 4 (some .int) 2 46 0 0 D (kTy k) [.ref (a 0), .int (nI j)] (wMO k a (nI dy) rooms tanks bests cows (nI nf) vrooms inv vsh (nI nv) (kB ub) vis rounds itk farm amount mark ways (nI n) (nI nb) thr) (some (.int (inv j + itk))) (wMO k a (nI dy) rooms tanks bests cows (nI nf) vrooms (upd inv j (inv j + itk)) (upd vsh j (vsh j + sI (fun zi => decide (ways zi = (-1))) (fun _ => 1) n)) (nI nv) (kB false) vis rounds 0 farm amount mark (wr (fun zi => decide (ways zi = -1)) (fun _ => nI j) ways n) (nI n) (nI nb) 0) := by
  refine mW.of (lv' := [(0, .ref (a 0)), (1, .int (nI j))]) (by decide) (Nat.le_of_ble_eq_true rfl) rfl ?_
  intro p e s m args below meth c E hr hlk hm hA
  refine k_aload_n E 0 rfl rfl dX3_endRound_0 ?_
  refine k_iload_n E 1 rfl rfl dX3_endRound_1 ?_
  refine k_callRV [.int (nI j)] E (m_X3_isVat l D k a dy rooms tanks bests cows nf vrooms inv vsh nv ub vis rounds itk farm amount mark ways n nb thr (nI j)) cf_X3_isVat q_800 [0, 1, 2, 3, 4, 5, 6, 7, 8, 9, 10, 11, 12] rfl 0 rfl rfl rfl rfl ⟨by decide, by decide⟩ (Nat.le_of_ble_eq_true rfl) ⟨by decide, by decide⟩ dX3_endRound_2 ?_
  refine k_steq (st' := [.int (kB (isR (nI j) nv))]) rfl ?_
  refine k_if_eq E (tgt := 15) (by decide) dX3_endRound_5 (fun c5 => absurd (kB_f c5) (by rw [isR_t hj (by omega)]; decide)) (fun c5 => ?_)
  have c5 := kB_t c5
  refine k_aload_n E 0 rfl rfl dX3_endRound_8 ?_
  refine k_get E inX3 0 rfl rfl 10 (by decide) q_685 rfl rfl dX3_endRound_9 ?_
  refine k_if_ne E (tgt := 34) (by decide) dX3_endRound_12 (fun c12 => ?_) (fun c12 => absurd (kB_f c12) (by rw [hu]; decide))
  have c12 := kB_t c12
  refine k_aload_n E 0 rfl rfl dX3_endRound_34 ?_
  refine k_get E inX3 0 rfl rfl 7 (by decide) q_682 rfl rfl dX3_endRound_35 ?_
  refine k_iload_n E 1 rfl rfl dX3_endRound_38 ?_
  refine k_iald E (j := j) 6 0 rfl rfl rfl (by omega) (by decide) dX3_endRound_39 ?_
  refine k_aload_n E 0 rfl rfl dX3_endRound_40 ?_
  refine k_get E inX3 0 rfl rfl 13 (by decide) q_688 rfl rfl dX3_endRound_41 ?_
  refine k_iadd E dX3_endRound_44 ?_
  refine k_aload_n E 0 rfl rfl dX3_endRound_45 ?_
  refine k_get E inX3 0 rfl rfl 6 (by decide) q_681 rfl rfl dX3_endRound_46 ?_
  refine k_iload_n E 1 rfl rfl dX3_endRound_49 ?_
  refine k_iald E (j := j) 5 0 rfl rfl rfl (by omega) (by decide) dX3_endRound_50 ?_
  refine k_icmp_gt E (tgt := 75) (by decide) dX3_endRound_51 (fun c51 => absurd c51 (not_not_intro_lt hr0)) (fun c51 => ?_)
  refine k_aload_n E 0 rfl rfl dX3_endRound_54 ?_
  refine k_get E inX3 0 rfl rfl 8 (by decide) q_683 rfl rfl dX3_endRound_55 ?_
  refine k_iload_n E 1 rfl rfl dX3_endRound_58 ?_
  refine k_iald E (j := j) 7 0 rfl rfl rfl (by omega) (by decide) dX3_endRound_59 ?_
  refine k_aload_n E 0 rfl rfl dX3_endRound_60 ?_
  refine k_iconst E (v := (-1)) (by decide) dX3_endRound_61 ?_
  refine k_callRV [.int (-1)] E (m_X3_onWay l D k a dy rooms tanks bests cows nf vrooms inv vsh nv ub vis rounds itk farm amount mark ways n nb thr (-1) (by first | assumption | omega)) cf_X3_onWay q_804 [0, 1, 2, 3, 4, 5, 6, 7, 8, 9, 10, 11, 12] rfl 0 rfl rfl rfl rfl ⟨by decide, by decide⟩ (Nat.le_of_ble_eq_true rfl) ⟨by decide, by decide⟩ dX3_endRound_62 ?_
  refine k_steq (st' := [.int (sI (fun zi => decide (ways zi = (-1))) (fun _ => 1) n), .int (vsh j)]) rfl ?_
  refine k_iadd E dX3_endRound_65 ?_
  refine k_bipush E (v := 60) (by decide) dX3_endRound_66 ?_
  refine k_icmp_gt E (tgt := 75) (by decide) dX3_endRound_68 (fun c68 => absurd c68 (not_not_intro_lt hs0)) (fun c68 => ?_)
  refine k_iconst E (v := 1) (by decide) dX3_endRound_71 ?_
  refine k_goto E (tgt := 76) (by decide) dX3_endRound_72 ?_
  refine k_istore_n (lv' := [(2, .int 1), (0, .ref (a 0)), (1, .int (nI j))]) E rfl (by decide) rfl dX3_endRound_76 ?_
  refine k_aload_n E 1 rfl rfl dX3_endRound_77 ?_
  refine k_iload_n E 0 rfl rfl dX3_endRound_78 ?_
  refine k_if_eq E (tgt := 86) (by decide) dX3_endRound_79 (fun h => absurd h (by decide)) (fun _ => ?_)
  refine k_iconst E (v := 0) (by decide) dX3_endRound_82 ?_
  refine k_goto E (tgt := 87) (by decide) dX3_endRound_83 ?_
  refine k_put (ws' := (wMO k a (nI dy) rooms tanks bests cows (nI nf) vrooms inv vsh (nI nv) (kB ub) vis rounds itk farm amount mark ways (nI n) (nI nb) 0)) E inX3 tyX3 tyX3_ok nmX3 0 rfl rfl 20 (by decide) q_695 rfl rfl rfl rfl (Nat.le_of_ble_eq_true rfl) rfl dX3_endRound_87 ?_
  refine k_aload_n E 1 rfl rfl dX3_endRound_90 ?_
  refine k_get E inX3 0 rfl rfl 20 (by decide) q_695 rfl rfl dX3_endRound_91 ?_
  refine k_if_le E (tgt := 99) (by decide) dX3_endRound_94 (fun _ => ?_) (fun h => absurd (by decide) h)
  refine k_aload_n E 1 rfl rfl dX3_endRound_99 ?_
  refine k_get E inX3 0 rfl rfl 8 (by decide) q_683 rfl rfl dX3_endRound_100 ?_
  refine k_iload_n E 2 rfl rfl dX3_endRound_103 ?_
  refine k_dup2 E rfl rfl dX3_endRound_104 ?_
  refine k_iald E (j := j) 7 0 rfl rfl rfl (by omega) (by decide) dX3_endRound_105 ?_
  refine k_aload_n E 1 rfl rfl dX3_endRound_106 ?_
  refine k_iconst E (v := (-1)) (by decide) dX3_endRound_107 ?_
  refine k_callRV [.int (-1)] E (m_X3_onWay l D k a dy rooms tanks bests cows nf vrooms inv vsh nv ub vis rounds itk farm amount mark ways n nb 0 (-1) (by first | assumption | omega)) cf_X3_onWay q_804 [0, 1, 2, 3, 4, 5, 6, 7, 8, 9, 10, 11, 12] rfl 0 rfl rfl rfl rfl ⟨by decide, by decide⟩ (Nat.le_of_ble_eq_true rfl) ⟨by decide, by decide⟩ dX3_endRound_108 ?_
  refine k_steq (st' := [.int (sI (fun zi => decide (ways zi = (-1))) (fun _ => 1) n), .int (vsh j), .int (nI j), .ref (a 7)]) rfl ?_
  refine k_iadd E dX3_endRound_111 ?_
  refine k_iast (y := (vsh j) + (sI (fun zi => decide (ways zi = (-1))) (fun _ => 1) n)) (j := j) (ws' := (wMO k a (nI dy) rooms tanks bests cows (nI nf) vrooms inv (upd vsh j ((vsh j) + (sI (fun zi => decide (ways zi = (-1))) (fun _ => 1) n))) (nI nv) (kB ub) vis rounds itk farm amount mark ways (nI n) (nI nb) 0)) E 7 0 rfl rfl rfl (by omega) (by decide) rfl rfl dX3_endRound_112 ?_
  refine k_iconst E (v := 0) (by decide) dX3_endRound_113 ?_
  refine k_istore_n (lv' := [(3, .int 0), (2, .int 1), (0, .ref (a 0)), (1, .int (nI j))]) E rfl (by decide) rfl dX3_endRound_114 ?_
  have L115 : ∀ (dn115 : Nat) (i : Nat) (w_ : Nat → Int32), i + dn115 = n → (w_ = wr (fun zi => decide (ways zi = -1)) (fun _ => nI j) ways i) → kJ p l e (kRmc 2 46 0 0) s m args below meth c (gW D (va_A (wMO k a (nI dy) rooms tanks bests cows (nI nf) vrooms inv vsh (nI nv) (kB ub) vis rounds itk farm amount mark ways (nI n) (nI nb) thr) s.heap.size) s.heap) 4 0 0 (MQ below (kQw (some (.int (inv j + itk))) D (wMO k a (nI dy) rooms tanks bests cows (nI nf) vrooms inv vsh (nI nv) (kB ub) vis rounds itk farm amount mark ways (nI n) (nI nb) thr) (wMO k a (nI dy) rooms tanks bests cows (nI nf) vrooms (upd inv j (inv j + itk)) (upd vsh j (vsh j + sI (fun zi => decide (ways zi = (-1))) (fun _ => 1) n)) (nI nv) (kB false) vis rounds 0 farm amount mark (wr (fun zi => decide (ways zi = -1)) (fun _ => nI j) ways n) (nI n) (nI nb) 0) s.heap.size) args s 0 0 (va_A (wMO k a (nI dy) rooms tanks bests cows (nI nf) vrooms inv vsh (nI nv) (kB ub) vis rounds itk farm amount mark ways (nI n) (nI nb) thr) s.heap.size)) (wMO k a (nI dy) rooms tanks bests cows (nI nf) vrooms inv (upd vsh j ((vsh j) + (sI (fun zi => decide (ways zi = (-1))) (fun _ => 1) n))) (nI nv) (kB ub) vis rounds itk farm amount mark w_ (nI n) (nI nb) 0) 115 [(0, .ref (a 0)), (1, .int (nI j)), (3, .int (nI i))] [] := by
    intro dn115
    induction dn115 with
    | zero =>
      intro i w_ hd115 hw
      refine k_iload_n E 2 rfl rfl dX3_endRound_115 ?_
      refine k_aload_n E 0 rfl rfl dX3_endRound_116 ?_
      refine k_get E inX3 0 rfl rfl 18 (by decide) q_693 rfl rfl dX3_endRound_117 ?_
      refine k_icmp_ge E (tgt := 155) (by decide) dX3_endRound_120 (fun c120 => ?_) (fun c120 => absurd ((not_congr (nI_leI (a := n) (b := i) (by omega) (by omega))).mp c120) (by omega))
      have c120 := (nI_leI (a := n) (b := i) (by omega) (by omega)).mp c120
      refine k_aload_n E 0 rfl rfl dX3_endRound_155 ?_
      refine k_get E inX3 0 rfl rfl 7 (by decide) q_682 rfl rfl dX3_endRound_156 ?_
      refine k_iload_n E 1 rfl rfl dX3_endRound_159 ?_
      refine k_dup2 E rfl rfl dX3_endRound_160 ?_
      refine k_iald E (j := j) 6 0 rfl rfl rfl (by omega) (by decide) dX3_endRound_161 ?_
      refine k_aload_n E 0 rfl rfl dX3_endRound_162 ?_
      refine k_get E inX3 0 rfl rfl 13 (by decide) q_688 rfl rfl dX3_endRound_163 ?_
      refine k_iadd E dX3_endRound_166 ?_
      refine k_iast (y := (inv j) + itk) (j := j) (ws' := (wMO k a (nI dy) rooms tanks bests cows (nI nf) vrooms (upd inv j ((inv j) + itk)) (upd vsh j ((vsh j) + (sI (fun zi => decide (ways zi = (-1))) (fun _ => 1) n))) (nI nv) (kB ub) vis rounds itk farm amount mark w_ (nI n) (nI nb) 0)) E 6 0 rfl rfl rfl (by omega) (by decide) rfl rfl dX3_endRound_167 ?_
      refine k_aload_n E 0 rfl rfl dX3_endRound_168 ?_
      refine k_iconst E (v := 0) (by decide) dX3_endRound_169 ?_
      refine k_put (ws' := (wMO k a (nI dy) rooms tanks bests cows (nI nf) vrooms (upd inv j ((inv j) + itk)) (upd vsh j ((vsh j) + (sI (fun zi => decide (ways zi = (-1))) (fun _ => 1) n))) (nI nv) (kB ub) vis rounds 0 farm amount mark w_ (nI n) (nI nb) 0)) E inX3 tyX3 tyX3_ok nmX3 0 rfl rfl 13 (by decide) q_688 rfl rfl rfl rfl (Nat.le_of_ble_eq_true rfl) rfl dX3_endRound_170 ?_
      refine k_aload_n E 0 rfl rfl dX3_endRound_173 ?_
      refine k_iconst E (v := 0) (by decide) dX3_endRound_174 ?_
      refine k_put (ws' := (wMO k a (nI dy) rooms tanks bests cows (nI nf) vrooms (upd inv j ((inv j) + itk)) (upd vsh j ((vsh j) + (sI (fun zi => decide (ways zi = (-1))) (fun _ => 1) n))) (nI nv) 0 vis rounds 0 farm amount mark w_ (nI n) (nI nb) 0)) E inX3 tyX3 tyX3_ok nmX3 0 rfl rfl 10 (by decide) q_685 rfl rfl rfl rfl (Nat.le_of_ble_eq_true rfl) rfl dX3_endRound_175 ?_
      refine k_aload_n E 0 rfl rfl dX3_endRound_178 ?_
      refine k_get E inX3 0 rfl rfl 7 (by decide) q_682 rfl rfl dX3_endRound_179 ?_
      refine k_iload_n E 1 rfl rfl dX3_endRound_182 ?_
      refine k_iald E (j := j) 6 0 rfl rfl rfl (by omega) (by decide) dX3_endRound_183 ?_
      exact kw_iret E hr hlk (by simp [upd]) (by rw [hw, show i = n by omega]; rfl) (by decide) (by decide) dX3_endRound_184
    | succ dn115 ih115 =>
      intro i w_ hd115 hw
      refine k_iload_n E 2 rfl rfl dX3_endRound_115 ?_
      refine k_aload_n E 0 rfl rfl dX3_endRound_116 ?_
      refine k_get E inX3 0 rfl rfl 18 (by decide) q_693 rfl rfl dX3_endRound_117 ?_
      refine k_icmp_ge E (tgt := 155) (by decide) dX3_endRound_120 (fun c120 => absurd ((nI_leI (a := n) (b := i) (by omega) (by omega)).mp c120) (by omega)) (fun c120 => ?_)
      have c120 := (not_congr (nI_leI (a := n) (b := i) (by omega) (by omega))).mp c120
      refine k_aload_n E 0 rfl rfl dX3_endRound_123 ?_
      refine k_get E inX3 0 rfl rfl 17 (by decide) q_692 rfl rfl dX3_endRound_124 ?_
      refine k_iload_n E 2 rfl rfl dX3_endRound_127 ?_
      refine k_aload_n E 0 rfl rfl dX3_endRound_128 ?_
      refine k_get E inX3 0 rfl rfl 17 (by decide) q_692 rfl rfl dX3_endRound_129 ?_
      refine k_iload_n E 2 rfl rfl dX3_endRound_132 ?_
      refine k_iald E (j := i) 12 0 rfl rfl rfl (by omega) (by decide) dX3_endRound_133 ?_
      refine k_iconst E (v := (-1)) (by decide) dX3_endRound_134 ?_
      refine k_icmp_ne E (tgt := 142) (by decide) dX3_endRound_135 (fun c135 => ?_) (fun c135 => ?_)
      · skip
        refine k_aload_n E 0 rfl rfl dX3_endRound_142 ?_
        refine k_get E inX3 0 rfl rfl 17 (by decide) q_692 rfl rfl dX3_endRound_143 ?_
        refine k_iload_n E 2 rfl rfl dX3_endRound_146 ?_
        refine k_iald E (j := i) 12 0 rfl rfl rfl (by omega) (by decide) dX3_endRound_147 ?_
        refine k_iast (y := w_ i) (j := i) (ws' := (wMO k a (nI dy) rooms tanks bests cows (nI nf) vrooms inv (upd vsh j ((vsh j) + (sI (fun zi => decide (ways zi = (-1))) (fun _ => 1) n))) (nI nv) (kB ub) vis rounds itk farm amount mark (upd w_ i (w_ i)) (nI n) (nI nb) 0)) E 12 0 rfl rfl rfl (by omega) (by decide) rfl rfl dX3_endRound_148 ?_
        refine k_iinc (q := 2) (v := nI (i + 1)) (lv' := [(3, .int (nI (i + 1))), (0, .ref (a 0)), (1, .int (nI j))]) E rfl (nI_inc _) (by decide) rfl dX3_endRound_149 ?_
        refine k_goto E (tgt := 115) (by decide) dX3_endRound_152 ?_
        refine k_lv [1, 2, 0] rfl ?_
        exact ih115 (i + 1) (upd w_ i (w_ i)) (by omega) (by first | (rw [hw]; exact wr_t (v := fun _ => nI j) (by rw [hw, wr_at] at c135; simp [c135])) | (rw [upd_self, hw]; exact wr_f (by rw [hw, wr_at] at c135; simp [c135])))
      · skip
        refine k_iload_n E 1 rfl rfl dX3_endRound_138 ?_
        refine k_goto E (tgt := 148) (by decide) dX3_endRound_139 ?_
        refine k_iast (y := nI j) (j := i) (ws' := (wMO k a (nI dy) rooms tanks bests cows (nI nf) vrooms inv (upd vsh j ((vsh j) + (sI (fun zi => decide (ways zi = (-1))) (fun _ => 1) n))) (nI nv) (kB ub) vis rounds itk farm amount mark (upd w_ i (nI j)) (nI n) (nI nb) 0)) E 12 0 rfl rfl rfl (by omega) (by decide) rfl rfl dX3_endRound_148 ?_
        refine k_iinc (q := 2) (v := nI (i + 1)) (lv' := [(3, .int (nI (i + 1))), (0, .ref (a 0)), (1, .int (nI j))]) E rfl (nI_inc _) (by decide) rfl dX3_endRound_149 ?_
        refine k_goto E (tgt := 115) (by decide) dX3_endRound_152 ?_
        refine k_lv [1, 2, 0] rfl ?_
        exact ih115 (i + 1) (upd w_ i (nI j)) (by omega) (by first | (rw [hw]; exact wr_t (v := fun _ => nI j) (by rw [hw, wr_at] at c135; simp [c135])) | (rw [upd_self, hw]; exact wr_f (by rw [hw, wr_at] at c135; simp [c135])))
  refine k_lv [2, 3, 0] rfl ?_
  exact L115 (n - 0) 0 ways (by omega) (wr_0 _ _ _).symm
set_option maxRecDepth 100000 in
set_option maxHeartbeats 4000000 in
theorem m_X3_endRound_i (l : Launch) (D : va_G) (k : Nat → ClassId) (a : Nat → Nat) (dy : Nat) (rooms : Nat → Int32) (tanks : Nat → Int32) (bests : Nat → Int32) (cows : Nat → Int32) (nf : Nat) (vrooms : Nat → Int32) (inv : Nat → Int32) (vsh : Nat → Int32) (nv : Nat) (ub : Bool) (vis : Nat → Int32) (rounds : Int32) (itk : Int32) (farm : Nat → Int32) (amount : Nat → Int32) (mark : Nat → Int32) (ways : Nat → Int32) (n : Nat) (nb : Nat) (thr : Int32) (fa : Int32) (hb : fa < 0 ∨ nI nv ≤ fa) (hnv : nv ≤ 4) : mW l yX3_endRound cX3_endRound 4 (some .int) 2 46 0 0 D (kTy k) [.ref (a 0), .int fa] (wMO k a (nI dy) rooms tanks bests cows (nI nf) vrooms inv vsh (nI nv) (kB ub) vis rounds itk farm amount mark ways (nI n) (nI nb) thr) (some (.int (-1))) (wMO k a (nI dy) rooms tanks bests cows (nI nf) vrooms inv vsh (nI nv) (kB ub) vis rounds itk farm amount mark ways (nI n) (nI nb) 1) := by
  refine mW.of (lv' := [(0, .ref (a 0)), (1, .int fa)]) (by decide) (Nat.le_of_ble_eq_true rfl) rfl ?_
  intro p e s m args below meth c E hr hlk hm hA
  refine k_aload_n E 0 rfl rfl dX3_endRound_0 ?_
  refine k_iload_n E 1 rfl rfl dX3_endRound_1 ?_
  refine k_callRV [.int fa] E (m_X3_isVat l D k a dy rooms tanks bests cows nf vrooms inv vsh nv ub vis rounds itk farm amount mark ways n nb thr fa) cf_X3_isVat q_800 [0, 1, 2, 3, 4, 5, 6, 7, 8, 9, 10, 11, 12] rfl 0 rfl rfl rfl rfl ⟨by decide, by decide⟩ (Nat.le_of_ble_eq_true rfl) ⟨by decide, by decide⟩ dX3_endRound_2 ?_
  refine k_steq (st' := [.int (kB (isR fa nv))]) rfl ?_
  refine k_if_eq E (tgt := 15) (by decide) dX3_endRound_5 (fun c5 => ?_) (fun c5 => absurd (kB_t c5) (by rw [isR_f hb (by omega)]; decide))
  have c5 := kB_f c5
  refine k_aload_n E 0 rfl rfl dX3_endRound_15 ?_
  refine k_aload_n E 0 rfl rfl dX3_endRound_16 ?_
  refine k_iload_n E 1 rfl rfl dX3_endRound_17 ?_
  refine k_callRV [.int fa] E (m_X3_isVat l D k a dy rooms tanks bests cows nf vrooms inv vsh nv ub vis rounds itk farm amount mark ways n nb thr fa) cf_X3_isVat q_800 [0, 1, 2, 3, 4, 5, 6, 7, 8, 9, 10, 11, 12] rfl 0 rfl rfl rfl rfl ⟨by decide, by decide⟩ (Nat.le_of_ble_eq_true rfl) ⟨by decide, by decide⟩ dX3_endRound_18 ?_
  refine k_steq (st' := [.int (kB (isR fa nv)), .ref (a 0)]) rfl ?_
  refine k_if_ne E (tgt := 28) (by decide) dX3_endRound_21 (fun c21 => absurd (kB_t c21) (by rw [isR_f hb (by omega)]; decide)) (fun c21 => ?_)
  have c21 := kB_f c21
  refine k_iconst E (v := 1) (by decide) dX3_endRound_24 ?_
  refine k_goto E (tgt := 29) (by decide) dX3_endRound_25 ?_
  refine k_put (ws' := (wMO k a (nI dy) rooms tanks bests cows (nI nf) vrooms inv vsh (nI nv) (kB ub) vis rounds itk farm amount mark ways (nI n) (nI nb) 1)) E inX3 tyX3 tyX3_ok nmX3 0 rfl rfl 20 (by decide) q_695 rfl rfl rfl rfl (Nat.le_of_ble_eq_true rfl) rfl dX3_endRound_29 ?_
  refine k_iconst E (v := (-1)) (by decide) dX3_endRound_32 ?_
  exact kw_iret E hr hlk rfl rfl (by decide) (by decide) dX3_endRound_33
set_option maxRecDepth 100000 in
set_option maxHeartbeats 4000000 in
theorem m_X3_endRound_s (l : Launch) (D : va_G) (k : Nat → ClassId) (a : Nat → Nat) (dy : Nat) (rooms : Nat → Int32) (tanks : Nat → Int32) (bests : Nat → Int32) (cows : Nat → Int32) (nf : Nat) (vrooms : Nat → Int32) (inv : Nat → Int32) (vsh : Nat → Int32) (nv : Nat) (ub : Bool) (vis : Nat → Int32) (rounds : Int32) (itk : Int32) (farm : Nat → Int32) (amount : Nat → Int32) (mark : Nat → Int32) (ways : Nat → Int32) (n : Nat) (nb : Nat) (thr : Int32) (j : Nat) (hj : j < nv) (hnv : nv ≤ 4) (hn : n ≤ 100) (hu : ub = false) : mW l yX3_endRound cX3_endRound 4 (some .int) 2 46 0 0 D (kTy k) [.ref (a 0), .int (nI j)] (wMO k a (nI dy) rooms tanks bests cows (nI nf) vrooms inv vsh (nI nv) (kB ub) vis rounds itk farm amount mark ways (nI n) (nI nb) thr) (some (.int (-1))) (wMO k a (nI dy) rooms tanks bests cows (nI nf) vrooms inv vsh (nI nv) (kB ub) vis rounds itk farm amount mark ways (nI n) (nI nb) 2) := by
  refine mW.of (lv' := [(0, .ref (a 0)), (1, .int (nI j))]) (by decide) (Nat.le_of_ble_eq_true rfl) rfl ?_
  intro p e s m args below meth c E hr hlk hm hA
  refine k_aload_n E 0 rfl rfl dX3_endRound_0 ?_
  refine k_iload_n E 1 rfl rfl dX3_endRound_1 ?_
  refine k_callRV [.int (nI j)] E (m_X3_isVat l D k a dy rooms tanks bests cows nf vrooms inv vsh nv ub vis rounds itk farm amount mark ways n nb thr (nI j)) cf_X3_isVat q_800 [0, 1, 2, 3, 4, 5, 6, 7, 8, 9, 10, 11, 12] rfl 0 rfl rfl rfl rfl ⟨by decide, by decide⟩ (Nat.le_of_ble_eq_true rfl) ⟨by decide, by decide⟩ dX3_endRound_2 ?_
  refine k_steq (st' := [.int (kB (isR (nI j) nv))]) rfl ?_
  refine k_if_eq E (tgt := 15) (by decide) dX3_endRound_5 (fun c5 => absurd (kB_f c5) (by rw [isR_t hj (by omega)]; decide)) (fun c5 => ?_)
  have c5 := kB_t c5
  refine k_aload_n E 0 rfl rfl dX3_endRound_8 ?_
  refine k_get E inX3 0 rfl rfl 10 (by decide) q_685 rfl rfl dX3_endRound_9 ?_
  refine k_if_ne E (tgt := 34) (by decide) dX3_endRound_12 (fun c12 => absurd (kB_t c12) (by rw [hu]; decide)) (fun c12 => ?_)
  have c12 := kB_f c12
  refine k_aload_n E 0 rfl rfl dX3_endRound_15 ?_
  refine k_aload_n E 0 rfl rfl dX3_endRound_16 ?_
  refine k_iload_n E 1 rfl rfl dX3_endRound_17 ?_
  refine k_callRV [.int (nI j)] E (m_X3_isVat l D k a dy rooms tanks bests cows nf vrooms inv vsh nv ub vis rounds itk farm amount mark ways n nb thr (nI j)) cf_X3_isVat q_800 [0, 1, 2, 3, 4, 5, 6, 7, 8, 9, 10, 11, 12] rfl 0 rfl rfl rfl rfl ⟨by decide, by decide⟩ (Nat.le_of_ble_eq_true rfl) ⟨by decide, by decide⟩ dX3_endRound_18 ?_
  refine k_steq (st' := [.int (kB (isR (nI j) nv)), .ref (a 0)]) rfl ?_
  refine k_if_ne E (tgt := 28) (by decide) dX3_endRound_21 (fun c21 => ?_) (fun c21 => absurd (kB_f c21) (by rw [isR_t hj (by omega)]; decide))
  have c21 := kB_t c21
  refine k_iconst E (v := 2) (by decide) dX3_endRound_28 ?_
  refine k_put (ws' := (wMO k a (nI dy) rooms tanks bests cows (nI nf) vrooms inv vsh (nI nv) (kB ub) vis rounds itk farm amount mark ways (nI n) (nI nb) 2)) E inX3 tyX3 tyX3_ok nmX3 0 rfl rfl 20 (by decide) q_695 rfl rfl rfl rfl (Nat.le_of_ble_eq_true rfl) rfl dX3_endRound_29 ?_
  refine k_iconst E (v := (-1)) (by decide) dX3_endRound_32 ?_
  exact kw_iret E hr hlk rfl rfl (by decide) (by decide) dX3_endRound_33
set_option maxRecDepth 100000 in
set_option maxHeartbeats 4000000 in
theorem m_X3_endRound_u1 (l : Launch) (D : va_G) (k : Nat → ClassId) (a : Nat → Nat) (dy : Nat) (rooms : Nat → Int32) (tanks : Nat → Int32) (bests : Nat → Int32) (cows : Nat → Int32) (nf : Nat) (vrooms : Nat → Int32) (inv : Nat → Int32) (vsh : Nat → Int32) (nv : Nat) (ub : Bool) (vis : Nat → Int32) (rounds : Int32) (itk : Int32) (farm : Nat → Int32) (amount : Nat → Int32) (mark : Nat → Int32) (ways : Nat → Int32) (n : Nat) (nb : Nat) (thr : Int32) (j : Nat) (hj : j < nv) (hnv : nv ≤ 4) (hn : n ≤ 100) (hu : ub = true) (hr0 : ¬ inv j + itk ≤ vrooms j) : mW l yX3_endRound cX3_endRound 4 (some .int) 2 46 0 0 D (kTy k) [.ref (a 0), .int (nI j)] (wMO k a (nI dy) rooms tanks bests cows (nI nf) vrooms inv vsh (nI nv) (kB ub) vis rounds itk farm amount mark ways (nI n) (nI nb) thr) (some (.int (-1))) (wMO k a (nI dy) rooms tanks bests cows (nI nf) vrooms inv vsh (nI nv) (kB ub) vis rounds itk farm amount mark ways (nI n) (nI nb) 3) := by
  refine mW.of (lv' := [(0, .ref (a 0)), (1, .int (nI j))]) (by decide) (Nat.le_of_ble_eq_true rfl) rfl ?_
  intro p e s m args below meth c E hr hlk hm hA
  refine k_aload_n E 0 rfl rfl dX3_endRound_0 ?_
  refine k_iload_n E 1 rfl rfl dX3_endRound_1 ?_
  refine k_callRV [.int (nI j)] E (m_X3_isVat l D k a dy rooms tanks bests cows nf vrooms inv vsh nv ub vis rounds itk farm amount mark ways n nb thr (nI j)) cf_X3_isVat q_800 [0, 1, 2, 3, 4, 5, 6, 7, 8, 9, 10, 11, 12] rfl 0 rfl rfl rfl rfl ⟨by decide, by decide⟩ (Nat.le_of_ble_eq_true rfl) ⟨by decide, by decide⟩ dX3_endRound_2 ?_
  refine k_steq (st' := [.int (kB (isR (nI j) nv))]) rfl ?_
  refine k_if_eq E (tgt := 15) (by decide) dX3_endRound_5 (fun c5 => absurd (kB_f c5) (by rw [isR_t hj (by omega)]; decide)) (fun c5 => ?_)
  have c5 := kB_t c5
  refine k_aload_n E 0 rfl rfl dX3_endRound_8 ?_
  refine k_get E inX3 0 rfl rfl 10 (by decide) q_685 rfl rfl dX3_endRound_9 ?_
  refine k_if_ne E (tgt := 34) (by decide) dX3_endRound_12 (fun c12 => ?_) (fun c12 => absurd (kB_f c12) (by rw [hu]; decide))
  have c12 := kB_t c12
  refine k_aload_n E 0 rfl rfl dX3_endRound_34 ?_
  refine k_get E inX3 0 rfl rfl 7 (by decide) q_682 rfl rfl dX3_endRound_35 ?_
  refine k_iload_n E 1 rfl rfl dX3_endRound_38 ?_
  refine k_iald E (j := j) 6 0 rfl rfl rfl (by omega) (by decide) dX3_endRound_39 ?_
  refine k_aload_n E 0 rfl rfl dX3_endRound_40 ?_
  refine k_get E inX3 0 rfl rfl 13 (by decide) q_688 rfl rfl dX3_endRound_41 ?_
  refine k_iadd E dX3_endRound_44 ?_
  refine k_aload_n E 0 rfl rfl dX3_endRound_45 ?_
  refine k_get E inX3 0 rfl rfl 6 (by decide) q_681 rfl rfl dX3_endRound_46 ?_
  refine k_iload_n E 1 rfl rfl dX3_endRound_49 ?_
  refine k_iald E (j := j) 5 0 rfl rfl rfl (by omega) (by decide) dX3_endRound_50 ?_
  refine k_icmp_gt E (tgt := 75) (by decide) dX3_endRound_51 (fun c51 => ?_) (fun c51 => absurd c51 (not_not_intro (Int32.not_le.mp hr0)))
  refine k_iconst E (v := 0) (by decide) dX3_endRound_75 ?_
  refine k_istore_n (lv' := [(2, .int 0), (0, .ref (a 0)), (1, .int (nI j))]) E rfl (by decide) rfl dX3_endRound_76 ?_
  refine k_aload_n E 1 rfl rfl dX3_endRound_77 ?_
  refine k_iload_n E 0 rfl rfl dX3_endRound_78 ?_
  refine k_if_eq E (tgt := 86) (by decide) dX3_endRound_79 (fun _ => ?_) (fun h => absurd (by decide) h)
  refine k_iconst E (v := 3) (by decide) dX3_endRound_86 ?_
  refine k_put (ws' := (wMO k a (nI dy) rooms tanks bests cows (nI nf) vrooms inv vsh (nI nv) (kB ub) vis rounds itk farm amount mark ways (nI n) (nI nb) 3)) E inX3 tyX3 tyX3_ok nmX3 0 rfl rfl 20 (by decide) q_695 rfl rfl rfl rfl (Nat.le_of_ble_eq_true rfl) rfl dX3_endRound_87 ?_
  refine k_aload_n E 1 rfl rfl dX3_endRound_90 ?_
  refine k_get E inX3 0 rfl rfl 20 (by decide) q_695 rfl rfl dX3_endRound_91 ?_
  refine k_if_le E (tgt := 99) (by decide) dX3_endRound_94 (fun h => absurd h (by decide)) (fun _ => ?_)
  refine k_iconst E (v := (-1)) (by decide) dX3_endRound_97 ?_
  exact kw_iret E hr hlk rfl rfl (by decide) (by decide) dX3_endRound_98
set_option maxRecDepth 100000 in
set_option maxHeartbeats 4000000 in
theorem m_X3_endRound_u2 (l : Launch) (D : va_G) (k : Nat → ClassId) (a : Nat → Nat) (dy : Nat) (rooms : Nat → Int32) (tanks : Nat → Int32) (bests : Nat → Int32) (cows : Nat → Int32) (nf : Nat) (vrooms : Nat → Int32) (inv : Nat → Int32) (vsh : Nat → Int32) (nv : Nat) (ub : Bool) (vis : Nat → Int32) (rounds : Int32) (itk : Int32) (farm : Nat → Int32) (amount : Nat → Int32) (mark : Nat → Int32) (ways : Nat → Int32) (n : Nat) (nb : Nat) (thr : Int32) (j : Nat) (hj : j < nv) (hnv : nv ≤ 4) (hn : n ≤ 100) (hu : ub = true) (hr0 : inv j + itk ≤ vrooms j) (hs0 : ¬ vsh j + sI (fun zi => decide (ways zi = (-1))) (fun _ => 1) n ≤ 60) : mW l yX3_endRound cX3_endRound 4 (some .int) 2 46 0 0 D (kTy k) [.ref (a 0), .int (nI j)] (wMO k a (nI dy) rooms tanks bests cows (nI nf) vrooms inv vsh (nI nv) (kB ub) vis rounds itk farm amount mark ways (nI n) (nI nb) thr) (some (.int (-1))) (wMO k a (nI dy) rooms tanks bests cows (nI nf) vrooms inv vsh (nI nv) (kB ub) vis rounds itk farm amount mark ways (nI n) (nI nb) 3) := by
  refine mW.of (lv' := [(0, .ref (a 0)), (1, .int (nI j))]) (by decide) (Nat.le_of_ble_eq_true rfl) rfl ?_
  intro p e s m args below meth c E hr hlk hm hA
  refine k_aload_n E 0 rfl rfl dX3_endRound_0 ?_
  refine k_iload_n E 1 rfl rfl dX3_endRound_1 ?_
  refine k_callRV [.int (nI j)] E (m_X3_isVat l D k a dy rooms tanks bests cows nf vrooms inv vsh nv ub vis rounds itk farm amount mark ways n nb thr (nI j)) cf_X3_isVat q_800 [0, 1, 2, 3, 4, 5, 6, 7, 8, 9, 10, 11, 12] rfl 0 rfl rfl rfl rfl ⟨by decide, by decide⟩ (Nat.le_of_ble_eq_true rfl) ⟨by decide, by decide⟩ dX3_endRound_2 ?_
  refine k_steq (st' := [.int (kB (isR (nI j) nv))]) rfl ?_
  refine k_if_eq E (tgt := 15) (by decide) dX3_endRound_5 (fun c5 => absurd (kB_f c5) (by rw [isR_t hj (by omega)]; decide)) (fun c5 => ?_)
  have c5 := kB_t c5
  refine k_aload_n E 0 rfl rfl dX3_endRound_8 ?_
  refine k_get E inX3 0 rfl rfl 10 (by decide) q_685 rfl rfl dX3_endRound_9 ?_
  refine k_if_ne E (tgt := 34) (by decide) dX3_endRound_12 (fun c12 => ?_) (fun c12 => absurd (kB_f c12) (by rw [hu]; decide))
  have c12 := kB_t c12
  refine k_aload_n E 0 rfl rfl dX3_endRound_34 ?_
  refine k_get E inX3 0 rfl rfl 7 (by decide) q_682 rfl rfl dX3_endRound_35 ?_
  refine k_iload_n E 1 rfl rfl dX3_endRound_38 ?_
  refine k_iald E (j := j) 6 0 rfl rfl rfl (by omega) (by decide) dX3_endRound_39 ?_
  refine k_aload_n E 0 rfl rfl dX3_endRound_40 ?_
  refine k_get E inX3 0 rfl rfl 13 (by decide) q_688 rfl rfl dX3_endRound_41 ?_
  refine k_iadd E dX3_endRound_44 ?_
  refine k_aload_n E 0 rfl rfl dX3_endRound_45 ?_
  refine k_get E inX3 0 rfl rfl 6 (by decide) q_681 rfl rfl dX3_endRound_46 ?_
  refine k_iload_n E 1 rfl rfl dX3_endRound_49 ?_
  refine k_iald E (j := j) 5 0 rfl rfl rfl (by omega) (by decide) dX3_endRound_50 ?_
  refine k_icmp_gt E (tgt := 75) (by decide) dX3_endRound_51 (fun c51 => absurd c51 (not_not_intro_lt hr0)) (fun c51 => ?_)
  refine k_aload_n E 0 rfl rfl dX3_endRound_54 ?_
  refine k_get E inX3 0 rfl rfl 8 (by decide) q_683 rfl rfl dX3_endRound_55 ?_
  refine k_iload_n E 1 rfl rfl dX3_endRound_58 ?_
  refine k_iald E (j := j) 7 0 rfl rfl rfl (by omega) (by decide) dX3_endRound_59 ?_
  refine k_aload_n E 0 rfl rfl dX3_endRound_60 ?_
  refine k_iconst E (v := (-1)) (by decide) dX3_endRound_61 ?_
  refine k_callRV [.int (-1)] E (m_X3_onWay l D k a dy rooms tanks bests cows nf vrooms inv vsh nv ub vis rounds itk farm amount mark ways n nb thr (-1) (by first | assumption | omega)) cf_X3_onWay q_804 [0, 1, 2, 3, 4, 5, 6, 7, 8, 9, 10, 11, 12] rfl 0 rfl rfl rfl rfl ⟨by decide, by decide⟩ (Nat.le_of_ble_eq_true rfl) ⟨by decide, by decide⟩ dX3_endRound_62 ?_
  refine k_steq (st' := [.int (sI (fun zi => decide (ways zi = (-1))) (fun _ => 1) n), .int (vsh j)]) rfl ?_
  refine k_iadd E dX3_endRound_65 ?_
  refine k_bipush E (v := 60) (by decide) dX3_endRound_66 ?_
  refine k_icmp_gt E (tgt := 75) (by decide) dX3_endRound_68 (fun c68 => ?_) (fun c68 => absurd c68 (not_not_intro (Int32.not_le.mp hs0)))
  refine k_iconst E (v := 0) (by decide) dX3_endRound_75 ?_
  refine k_istore_n (lv' := [(2, .int 0), (0, .ref (a 0)), (1, .int (nI j))]) E rfl (by decide) rfl dX3_endRound_76 ?_
  refine k_aload_n E 1 rfl rfl dX3_endRound_77 ?_
  refine k_iload_n E 0 rfl rfl dX3_endRound_78 ?_
  refine k_if_eq E (tgt := 86) (by decide) dX3_endRound_79 (fun _ => ?_) (fun h => absurd (by decide) h)
  refine k_iconst E (v := 3) (by decide) dX3_endRound_86 ?_
  refine k_put (ws' := (wMO k a (nI dy) rooms tanks bests cows (nI nf) vrooms inv vsh (nI nv) (kB ub) vis rounds itk farm amount mark ways (nI n) (nI nb) 3)) E inX3 tyX3 tyX3_ok nmX3 0 rfl rfl 20 (by decide) q_695 rfl rfl rfl rfl (Nat.le_of_ble_eq_true rfl) rfl dX3_endRound_87 ?_
  refine k_aload_n E 1 rfl rfl dX3_endRound_90 ?_
  refine k_get E inX3 0 rfl rfl 20 (by decide) q_695 rfl rfl dX3_endRound_91 ?_
  refine k_if_le E (tgt := 99) (by decide) dX3_endRound_94 (fun h => absurd h (by decide)) (fun _ => ?_)
  refine k_iconst E (v := (-1)) (by decide) dX3_endRound_97 ?_
  exact kw_iret E hr hlk rfl rfl (by decide) (by decide) dX3_endRound_98
set_option maxRecDepth 100000 in
set_option maxHeartbeats 4000000 in
theorem m_X3_inTanker (l : Launch) (D : va_G) (k : Nat → ClassId) (a : Nat → Nat) (dy : Nat) (rooms : Nat → Int32) (tanks : Nat → Int32) (bests : Nat → Int32) (cows : Nat → Int32) (nf : Nat) (vrooms : Nat → Int32) (inv : Nat → Int32) (vsh : Nat → Int32) (nv : Nat) (ub : Bool) (vis : Nat → Int32) (rounds : Int32) (itk : Int32) (farm : Nat → Int32) (amount : Nat → Int32) (mark : Nat → Int32) (ways : Nat → Int32) (n : Nat) (nb : Nat) (thr : Int32)  : mW l yX3_inTanker cX3_inTanker 1 (some .int) 0 0 0 0 D (kTy k) [.ref (a 0)] (wMO k a (nI dy) rooms tanks bests cows (nI nf) vrooms inv vsh (nI nv) (kB ub) vis rounds itk farm amount mark ways (nI n) (nI nb) thr) (some (.int itk)) (wMO k a (nI dy) rooms tanks bests cows (nI nf) vrooms inv vsh (nI nv) (kB ub) vis rounds itk farm amount mark ways (nI n) (nI nb) 0) := by
  refine mW.of (lv' := [(0, .ref (a 0))]) (by decide) (Nat.le_of_ble_eq_true rfl) rfl ?_
  intro p e s m args below meth c E hr hlk hm hA
  refine k_aload_n E 0 rfl rfl dX3_inTanker_0 ?_
  refine k_iconst E (v := 0) (by decide) dX3_inTanker_1 ?_
  refine k_put (ws' := (wMO k a (nI dy) rooms tanks bests cows (nI nf) vrooms inv vsh (nI nv) (kB ub) vis rounds itk farm amount mark ways (nI n) (nI nb) 0)) E inX3 tyX3 tyX3_ok nmX3 0 rfl rfl 20 (by decide) q_695 rfl rfl rfl rfl (Nat.le_of_ble_eq_true rfl) rfl dX3_inTanker_2 ?_
  refine k_aload_n E 0 rfl rfl dX3_inTanker_5 ?_
  refine k_get E inX3 0 rfl rfl 13 (by decide) q_688 rfl rfl dX3_inTanker_6 ?_
  exact kw_iret E hr hlk rfl rfl (by decide) (by decide) dX3_inTanker_9
set_option maxRecDepth 100000 in
set_option maxHeartbeats 4000000 in
theorem m_X3_inVat (l : Launch) (D : va_G) (k : Nat → ClassId) (a : Nat → Nat) (dy : Nat) (rooms : Nat → Int32) (tanks : Nat → Int32) (bests : Nat → Int32) (cows : Nat → Int32) (nf : Nat) (vrooms : Nat → Int32) (inv : Nat → Int32) (vsh : Nat → Int32) (nv : Nat) (ub : Bool) (vis : Nat → Int32) (rounds : Int32) (itk : Int32) (farm : Nat → Int32) (amount : Nat → Int32) (mark : Nat → Int32) (ways : Nat → Int32) (n : Nat) (nb : Nat) (thr : Int32) (j : Nat) (hj : j < nv) (hnv : nv ≤ 4) : mW l yX3_inVat cX3_inVat 2 (some .int) 2 46 0 0 D (kTy k) [.ref (a 0), .int (nI j)] (wMO k a (nI dy) rooms tanks bests cows (nI nf) vrooms inv vsh (nI nv) (kB ub) vis rounds itk farm amount mark ways (nI n) (nI nb) thr) (some (.int (inv j))) (wMO k a (nI dy) rooms tanks bests cows (nI nf) vrooms inv vsh (nI nv) (kB ub) vis rounds itk farm amount mark ways (nI n) (nI nb) 0) := by
  refine mW.of (lv' := [(0, .ref (a 0)), (1, .int (nI j))]) (by decide) (Nat.le_of_ble_eq_true rfl) rfl ?_
  intro p e s m args below meth c E hr hlk hm hA
  refine k_aload_n E 0 rfl rfl dX3_inVat_0 ?_
  refine k_aload_n E 0 rfl rfl dX3_inVat_1 ?_
  refine k_iload_n E 1 rfl rfl dX3_inVat_2 ?_
  refine k_callRV [.int (nI j)] E (m_X3_isVat l D k a dy rooms tanks bests cows nf vrooms inv vsh nv ub vis rounds itk farm amount mark ways n nb thr (nI j)) cf_X3_isVat q_800 [0, 1, 2, 3, 4, 5, 6, 7, 8, 9, 10, 11, 12] rfl 0 rfl rfl rfl rfl ⟨by decide, by decide⟩ (Nat.le_of_ble_eq_true rfl) ⟨by decide, by decide⟩ dX3_inVat_3 ?_
  refine k_steq (st' := [.int (kB (isR (nI j) nv)), .ref (a 0)]) rfl ?_
  refine k_if_eq E (tgt := 13) (by decide) dX3_inVat_6 (fun c6 => absurd (kB_f c6) (by rw [isR_t hj (by omega)]; decide)) (fun c6 => ?_)
  have c6 := kB_t c6
  refine k_iconst E (v := 0) (by decide) dX3_inVat_9 ?_
  refine k_goto E (tgt := 14) (by decide) dX3_inVat_10 ?_
  refine k_put (ws' := (wMO k a (nI dy) rooms tanks bests cows (nI nf) vrooms inv vsh (nI nv) (kB ub) vis rounds itk farm amount mark ways (nI n) (nI nb) 0)) E inX3 tyX3 tyX3_ok nmX3 0 rfl rfl 20 (by decide) q_695 rfl rfl rfl rfl (Nat.le_of_ble_eq_true rfl) rfl dX3_inVat_14 ?_
  refine k_aload_n E 0 rfl rfl dX3_inVat_17 ?_
  refine k_get E inX3 0 rfl rfl 20 (by decide) q_695 rfl rfl dX3_inVat_18 ?_
  refine k_if_ne E (tgt := 33) (by decide) dX3_inVat_21 (fun h => absurd (by decide) h) (fun _ => ?_)
  refine k_aload_n E 0 rfl rfl dX3_inVat_24 ?_
  refine k_get E inX3 0 rfl rfl 7 (by decide) q_682 rfl rfl dX3_inVat_25 ?_
  refine k_iload_n E 1 rfl rfl dX3_inVat_28 ?_
  refine k_iald E (j := j) 6 0 rfl rfl rfl (by omega) (by decide) dX3_inVat_29 ?_
  refine k_goto E (tgt := 34) (by decide) dX3_inVat_30 ?_
  exact kw_iret E hr hlk rfl rfl (by decide) (by decide) dX3_inVat_34
set_option maxRecDepth 100000 in
set_option maxHeartbeats 4000000 in
theorem m_X3_inVat_i (l : Launch) (D : va_G) (k : Nat → ClassId) (a : Nat → Nat) (dy : Nat) (rooms : Nat → Int32) (tanks : Nat → Int32) (bests : Nat → Int32) (cows : Nat → Int32) (nf : Nat) (vrooms : Nat → Int32) (inv : Nat → Int32) (vsh : Nat → Int32) (nv : Nat) (ub : Bool) (vis : Nat → Int32) (rounds : Int32) (itk : Int32) (farm : Nat → Int32) (amount : Nat → Int32) (mark : Nat → Int32) (ways : Nat → Int32) (n : Nat) (nb : Nat) (thr : Int32) (fa : Int32) (hb : fa < 0 ∨ nI nv ≤ fa) (hnv : nv ≤ 4) : mW l yX3_inVat cX3_inVat 2 (some .int) 2 46 0 0 D (kTy k) [.ref (a 0), .int fa] (wMO k a (nI dy) rooms tanks bests cows (nI nf) vrooms inv vsh (nI nv) (kB ub) vis rounds itk farm amount mark ways (nI n) (nI nb) thr) (some (.int (-1))) (wMO k a (nI dy) rooms tanks bests cows (nI nf) vrooms inv vsh (nI nv) (kB ub) vis rounds itk farm amount mark ways (nI n) (nI nb) 1) := by
  refine mW.of (lv' := [(0, .ref (a 0)), (1, .int fa)]) (by decide) (Nat.le_of_ble_eq_true rfl) rfl ?_
  intro p e s m args below meth c E hr hlk hm hA
  refine k_aload_n E 0 rfl rfl dX3_inVat_0 ?_
  refine k_aload_n E 0 rfl rfl dX3_inVat_1 ?_
  refine k_iload_n E 1 rfl rfl dX3_inVat_2 ?_
  refine k_callRV [.int fa] E (m_X3_isVat l D k a dy rooms tanks bests cows nf vrooms inv vsh nv ub vis rounds itk farm amount mark ways n nb thr fa) cf_X3_isVat q_800 [0, 1, 2, 3, 4, 5, 6, 7, 8, 9, 10, 11, 12] rfl 0 rfl rfl rfl rfl ⟨by decide, by decide⟩ (Nat.le_of_ble_eq_true rfl) ⟨by decide, by decide⟩ dX3_inVat_3 ?_
  refine k_steq (st' := [.int (kB (isR fa nv)), .ref (a 0)]) rfl ?_
  refine k_if_eq E (tgt := 13) (by decide) dX3_inVat_6 (fun c6 => ?_) (fun c6 => absurd (kB_t c6) (by rw [isR_f hb (by omega)]; decide))
  have c6 := kB_f c6
  refine k_iconst E (v := 1) (by decide) dX3_inVat_13 ?_
  refine k_put (ws' := (wMO k a (nI dy) rooms tanks bests cows (nI nf) vrooms inv vsh (nI nv) (kB ub) vis rounds itk farm amount mark ways (nI n) (nI nb) 1)) E inX3 tyX3 tyX3_ok nmX3 0 rfl rfl 20 (by decide) q_695 rfl rfl rfl rfl (Nat.le_of_ble_eq_true rfl) rfl dX3_inVat_14 ?_
  refine k_aload_n E 0 rfl rfl dX3_inVat_17 ?_
  refine k_get E inX3 0 rfl rfl 20 (by decide) q_695 rfl rfl dX3_inVat_18 ?_
  refine k_if_ne E (tgt := 33) (by decide) dX3_inVat_21 (fun _ => ?_) (fun h => absurd h (by decide))
  refine k_iconst E (v := (-1)) (by decide) dX3_inVat_33 ?_
  exact kw_iret E hr hlk rfl rfl (by decide) (by decide) dX3_inVat_34
set_option maxRecDepth 100000 in
set_option maxHeartbeats 4000000 in
theorem m_X3_bestVat (l : Launch) (D : va_G) (k : Nat → ClassId) (a : Nat → Nat) (dy : Nat) (rooms : Nat → Int32) (tanks : Nat → Int32) (bests : Nat → Int32) (cows : Nat → Int32) (nf : Nat) (vrooms : Nat → Int32) (inv : Nat → Int32) (vsh : Nat → Int32) (nv : Nat) (ub : Bool) (vis : Nat → Int32) (rounds : Int32) (itk : Int32) (farm : Nat → Int32) (amount : Nat → Int32) (mark : Nat → Int32) (ways : Nat → Int32) (n : Nat) (nb : Nat) (thr : Int32) (hnv : nv ≤ 4) (h0 : ¬ (bvS (fun zv => vrooms zv - inv zv) itk nv).1 = -1) : mW l yX3_bestVat cX3_bestVat 5 (some .int) 0 0 0 0 D (kTy k) [.ref (a 0)] (wMO k a (nI dy) rooms tanks bests cows (nI nf) vrooms inv vsh (nI nv) (kB ub) vis rounds itk farm amount mark ways (nI n) (nI nb) thr) (some (.int (bvS (fun zv => vrooms zv - inv zv) itk nv).1)) (wMO k a (nI dy) rooms tanks bests cows (nI nf) vrooms inv vsh (nI nv) (kB ub) vis rounds itk farm amount mark ways (nI n) (nI nb) 0) := by
  refine mW.of (lv' := [(0, .ref (a 0))]) (by decide) (Nat.le_of_ble_eq_true rfl) rfl ?_
  intro p e s m args below meth c E hr hlk hm hA
  refine k_iconst E (v := (-1)) (by decide) dX3_bestVat_0 ?_
  refine k_istore_n (lv' := [(1, .int (-1)), (0, .ref (a 0))]) E rfl (by decide) rfl dX3_bestVat_1 ?_
  refine k_iconst E (v := 0) (by decide) dX3_bestVat_2 ?_
  refine k_istore_n (lv' := [(2, .int 0), (1, .int (-1)), (0, .ref (a 0))]) E rfl (by decide) rfl dX3_bestVat_3 ?_
  have L4 : ∀ (dn4 : Nat) (i : Nat) (x : Int32), i + dn4 = nv → (x = (bvS (fun zv => vrooms zv - inv zv) itk i).1) → kJ p l e (kRmc 0 0 0 0) s m args below meth c (gW D (va_A (wMO k a (nI dy) rooms tanks bests cows (nI nf) vrooms inv vsh (nI nv) (kB ub) vis rounds itk farm amount mark ways (nI n) (nI nb) thr) s.heap.size) s.heap) 5 0 0 (MQ below (kQw (some (.int (bvS (fun zv => vrooms zv - inv zv) itk nv).1)) D (wMO k a (nI dy) rooms tanks bests cows (nI nf) vrooms inv vsh (nI nv) (kB ub) vis rounds itk farm amount mark ways (nI n) (nI nb) thr) (wMO k a (nI dy) rooms tanks bests cows (nI nf) vrooms inv vsh (nI nv) (kB ub) vis rounds itk farm amount mark ways (nI n) (nI nb) 0) s.heap.size) args s 0 0 (va_A (wMO k a (nI dy) rooms tanks bests cows (nI nf) vrooms inv vsh (nI nv) (kB ub) vis rounds itk farm amount mark ways (nI n) (nI nb) thr) s.heap.size)) (wMO k a (nI dy) rooms tanks bests cows (nI nf) vrooms inv vsh (nI nv) (kB ub) vis rounds itk farm amount mark ways (nI n) (nI nb) thr) 4 [(0, .ref (a 0)), (1, .int x), (2, .int (nI i))] [] := by
    intro dn4
    induction dn4 with
    | zero =>
      intro i x hd4 hp
      refine k_iload_n E 2 rfl rfl dX3_bestVat_4 ?_
      refine k_aload_n E 0 rfl rfl dX3_bestVat_5 ?_
      refine k_get E inX3 0 rfl rfl 9 (by decide) q_684 rfl rfl dX3_bestVat_6 ?_
      refine k_icmp_ge E (tgt := 80) (by decide) dX3_bestVat_9 (fun c9 => ?_) (fun c9 => absurd ((not_congr (nI_leI (a := nv) (b := i) (by omega) (by omega))).mp c9) (by omega))
      have c9 := (nI_leI (a := nv) (b := i) (by omega) (by omega)).mp c9
      refine k_aload_n E 0 rfl rfl dX3_bestVat_80 ?_
      refine k_iload_n E 1 rfl rfl dX3_bestVat_81 ?_
      refine k_iconst E (v := (-1)) (by decide) dX3_bestVat_82 ?_
      refine k_icmp_ne E (tgt := 90) (by decide) dX3_bestVat_83 (fun c83 => ?_) (fun c83 => absurd c83 (by rw [hp, show i = nv by omega]; exact h0))
      refine k_iconst E (v := 0) (by decide) dX3_bestVat_90 ?_
      refine k_put (ws' := (wMO k a (nI dy) rooms tanks bests cows (nI nf) vrooms inv vsh (nI nv) (kB ub) vis rounds itk farm amount mark ways (nI n) (nI nb) 0)) E inX3 tyX3 tyX3_ok nmX3 0 rfl rfl 20 (by decide) q_695 rfl rfl rfl rfl (Nat.le_of_ble_eq_true rfl) rfl dX3_bestVat_91 ?_
      refine k_iload_n E 1 rfl rfl dX3_bestVat_94 ?_
      exact kw_iret E hr hlk (by rw [hp, show i = nv by omega]) rfl (by decide) (by decide) dX3_bestVat_95
    | succ dn4 ih4 =>
      intro i x hd4 hp
      refine k_iload_n E 2 rfl rfl dX3_bestVat_4 ?_
      refine k_aload_n E 0 rfl rfl dX3_bestVat_5 ?_
      refine k_get E inX3 0 rfl rfl 9 (by decide) q_684 rfl rfl dX3_bestVat_6 ?_
      refine k_icmp_ge E (tgt := 80) (by decide) dX3_bestVat_9 (fun c9 => absurd ((nI_leI (a := nv) (b := i) (by omega) (by omega)).mp c9) (by omega)) (fun c9 => ?_)
      have c9 := (not_congr (nI_leI (a := nv) (b := i) (by omega) (by omega))).mp c9
      refine k_aload_n E 0 rfl rfl dX3_bestVat_12 ?_
      refine k_get E inX3 0 rfl rfl 6 (by decide) q_681 rfl rfl dX3_bestVat_13 ?_
      refine k_iload_n E 2 rfl rfl dX3_bestVat_16 ?_
      refine k_iald E (j := i) 5 0 rfl rfl rfl (by omega) (by decide) dX3_bestVat_17 ?_
      refine k_aload_n E 0 rfl rfl dX3_bestVat_18 ?_
      refine k_get E inX3 0 rfl rfl 7 (by decide) q_682 rfl rfl dX3_bestVat_19 ?_
      refine k_iload_n E 2 rfl rfl dX3_bestVat_22 ?_
      refine k_iald E (j := i) 6 0 rfl rfl rfl (by omega) (by decide) dX3_bestVat_23 ?_
      refine k_isub E dX3_bestVat_24 ?_
      refine k_istore_n (lv' := [(3, .int ((vrooms i) - (inv i))), (0, .ref (a 0)), (1, .int x), (2, .int (nI i))]) E rfl (by decide) rfl dX3_bestVat_25 ?_
      refine k_iload_n E 0 rfl rfl dX3_bestVat_26 ?_
      refine k_aload_n E 1 rfl rfl dX3_bestVat_27 ?_
      refine k_get E inX3 0 rfl rfl 13 (by decide) q_688 rfl rfl dX3_bestVat_28 ?_
      refine k_icmp_lt E (tgt := 60) (by decide) dX3_bestVat_31 (fun c31 => ?_) (fun c31 => ?_)
      · skip
        refine k_iconst E (v := 0) (by decide) dX3_bestVat_60 ?_
        refine k_istore (lv' := [(4, .int 0), (3, .int ((vrooms i) - (inv i))), (0, .ref (a 0)), (1, .int x), (2, .int (nI i))]) E (by decide) rfl dX3_bestVat_61 ?_
        refine k_iload E 0 rfl dX3_bestVat_63 ?_
        refine k_if_eq E (tgt := 72) (by decide) dX3_bestVat_65 (fun _ => ?_) (fun h => absurd (by decide) h)
        refine k_iload_n E 3 rfl rfl dX3_bestVat_72 ?_
        refine k_istore_n (lv' := [(1, .int x), (4, .int 0), (3, .int ((vrooms i) - (inv i))), (0, .ref (a 0)), (2, .int (nI i))]) E rfl (by decide) rfl dX3_bestVat_73 ?_
        refine k_iinc (q := 4) (v := nI (i + 1)) (lv' := [(2, .int (nI (i + 1))), (1, .int x), (4, .int 0), (3, .int ((vrooms i) - (inv i))), (0, .ref (a 0))]) E rfl (nI_inc _) (by decide) rfl dX3_bestVat_74 ?_
        refine k_goto E (tgt := 4) (by decide) dX3_bestVat_77 ?_
        refine k_lv [4, 1, 0] rfl ?_
        exact ih4 (i + 1) x (by omega) (by rw [bvS]; first | (simp [c31]; exact hp) | (simp [c31, ← hp, c36]; done) | (simp [c31, ejb, nI_pos (show jb < 2 ^ 31 by omega), Int32.not_lt.mpr c53]; rw [hp, ejb]; done) | (simp [c31, ejb, Int32.not_le.mp c53]; done))
      · skip
        refine k_iload_n E 2 rfl rfl dX3_bestVat_34 ?_
        refine k_iconst E (v := (-1)) (by decide) dX3_bestVat_35 ?_
        refine k_icmp_eq E (tgt := 56) (by decide) dX3_bestVat_36 (fun c36 => ?_) (fun c36 => ?_)
        · skip
          refine k_iconst E (v := 1) (by decide) dX3_bestVat_56 ?_
          refine k_goto E (tgt := 61) (by decide) dX3_bestVat_57 ?_
          refine k_istore (lv' := [(4, .int 1), (3, .int ((vrooms i) - (inv i))), (0, .ref (a 0)), (1, .int x), (2, .int (nI i))]) E (by decide) rfl dX3_bestVat_61 ?_
          refine k_iload E 0 rfl dX3_bestVat_63 ?_
          refine k_if_eq E (tgt := 72) (by decide) dX3_bestVat_65 (fun h => absurd h (by decide)) (fun _ => ?_)
          refine k_iload_n E 4 rfl rfl dX3_bestVat_68 ?_
          refine k_goto E (tgt := 73) (by decide) dX3_bestVat_69 ?_
          refine k_istore_n (lv' := [(1, .int (nI i)), (4, .int 1), (3, .int ((vrooms i) - (inv i))), (0, .ref (a 0)), (2, .int (nI i))]) E rfl (by decide) rfl dX3_bestVat_73 ?_
          refine k_iinc (q := 4) (v := nI (i + 1)) (lv' := [(2, .int (nI (i + 1))), (1, .int (nI i)), (4, .int 1), (3, .int ((vrooms i) - (inv i))), (0, .ref (a 0))]) E rfl (nI_inc _) (by decide) rfl dX3_bestVat_74 ?_
          refine k_goto E (tgt := 4) (by decide) dX3_bestVat_77 ?_
          refine k_lv [4, 1, 0] rfl ?_
          exact ih4 (i + 1) (nI i) (by omega) (by rw [bvS]; first | (simp [c31]; exact hp) | (simp [c31, ← hp, c36]; done) | (simp [c31, ejb, nI_pos (show jb < 2 ^ 31 by omega), Int32.not_lt.mpr c53]; rw [hp, ejb]; done) | (simp [c31, ejb, Int32.not_le.mp c53]; done))
        · skip
          obtain ⟨jb, hjb, ejb⟩ := (bvS_cases (fun zv => vrooms zv - inv zv) itk i).resolve_left (by rw [← hp]; exact c36)
          have exj : x = nI jb := by rw [hp, ejb]
          refine k_iload_n E 0 rfl rfl dX3_bestVat_39 ?_
          refine k_aload_n E 1 rfl rfl dX3_bestVat_40 ?_
          refine k_get E inX3 0 rfl rfl 6 (by decide) q_681 rfl rfl dX3_bestVat_41 ?_
          refine k_iload_n E 2 rfl rfl dX3_bestVat_44 ?_
          refine k_iald E (j := jb) 5 0 rfl rfl exj (by omega) (by decide) dX3_bestVat_45 ?_
          refine k_aload_n E 1 rfl rfl dX3_bestVat_46 ?_
          refine k_get E inX3 0 rfl rfl 7 (by decide) q_682 rfl rfl dX3_bestVat_47 ?_
          refine k_iload_n E 2 rfl rfl dX3_bestVat_50 ?_
          refine k_iald E (j := jb) 6 0 rfl rfl exj (by omega) (by decide) dX3_bestVat_51 ?_
          refine k_isub E dX3_bestVat_52 ?_
          refine k_icmp_ge E (tgt := 60) (by decide) dX3_bestVat_53 (fun c53 => ?_) (fun c53 => ?_)
          · skip
            refine k_iconst E (v := 0) (by decide) dX3_bestVat_60 ?_
            refine k_istore (lv' := [(4, .int 0), (3, .int ((vrooms i) - (inv i))), (0, .ref (a 0)), (1, .int x), (2, .int (nI i))]) E (by decide) rfl dX3_bestVat_61 ?_
            refine k_iload E 0 rfl dX3_bestVat_63 ?_
            refine k_if_eq E (tgt := 72) (by decide) dX3_bestVat_65 (fun _ => ?_) (fun h => absurd (by decide) h)
            refine k_iload_n E 3 rfl rfl dX3_bestVat_72 ?_
            refine k_istore_n (lv' := [(1, .int x), (4, .int 0), (3, .int ((vrooms i) - (inv i))), (0, .ref (a 0)), (2, .int (nI i))]) E rfl (by decide) rfl dX3_bestVat_73 ?_
            refine k_iinc (q := 4) (v := nI (i + 1)) (lv' := [(2, .int (nI (i + 1))), (1, .int x), (4, .int 0), (3, .int ((vrooms i) - (inv i))), (0, .ref (a 0))]) E rfl (nI_inc _) (by decide) rfl dX3_bestVat_74 ?_
            refine k_goto E (tgt := 4) (by decide) dX3_bestVat_77 ?_
            refine k_lv [4, 1, 0] rfl ?_
            exact ih4 (i + 1) x (by omega) (by rw [bvS]; first | (simp [c31]; exact hp) | (simp [c31, ← hp, c36]; done) | (simp [c31, ejb, nI_pos (show jb < 2 ^ 31 by omega), Int32.not_lt.mpr c53]; rw [hp, ejb]; done) | (simp [c31, ejb, Int32.not_le.mp c53]; done))
          · skip
            refine k_iconst E (v := 1) (by decide) dX3_bestVat_56 ?_
            refine k_goto E (tgt := 61) (by decide) dX3_bestVat_57 ?_
            refine k_istore (lv' := [(4, .int 1), (3, .int ((vrooms i) - (inv i))), (0, .ref (a 0)), (1, .int x), (2, .int (nI i))]) E (by decide) rfl dX3_bestVat_61 ?_
            refine k_iload E 0 rfl dX3_bestVat_63 ?_
            refine k_if_eq E (tgt := 72) (by decide) dX3_bestVat_65 (fun h => absurd h (by decide)) (fun _ => ?_)
            refine k_iload_n E 4 rfl rfl dX3_bestVat_68 ?_
            refine k_goto E (tgt := 73) (by decide) dX3_bestVat_69 ?_
            refine k_istore_n (lv' := [(1, .int (nI i)), (4, .int 1), (3, .int ((vrooms i) - (inv i))), (0, .ref (a 0)), (2, .int (nI i))]) E rfl (by decide) rfl dX3_bestVat_73 ?_
            refine k_iinc (q := 4) (v := nI (i + 1)) (lv' := [(2, .int (nI (i + 1))), (1, .int (nI i)), (4, .int 1), (3, .int ((vrooms i) - (inv i))), (0, .ref (a 0))]) E rfl (nI_inc _) (by decide) rfl dX3_bestVat_74 ?_
            refine k_goto E (tgt := 4) (by decide) dX3_bestVat_77 ?_
            refine k_lv [4, 1, 0] rfl ?_
            exact ih4 (i + 1) (nI i) (by omega) (by rw [bvS]; first | (simp [c31]; exact hp) | (simp [c31, ← hp, c36]; done) | (simp [c31, ejb, nI_pos (show jb < 2 ^ 31 by omega), Int32.not_lt.mpr c53]; rw [hp, ejb]; done) | (simp [c31, ejb, Int32.not_le.mp c53]; done))
  refine k_lv [2, 1, 0] rfl ?_
  exact L4 (nv - 0) 0 (-1) (by omega) rfl
set_option maxRecDepth 100000 in
set_option maxHeartbeats 4000000 in
theorem m_X3_bestVat_r (l : Launch) (D : va_G) (k : Nat → ClassId) (a : Nat → Nat) (dy : Nat) (rooms : Nat → Int32) (tanks : Nat → Int32) (bests : Nat → Int32) (cows : Nat → Int32) (nf : Nat) (vrooms : Nat → Int32) (inv : Nat → Int32) (vsh : Nat → Int32) (nv : Nat) (ub : Bool) (vis : Nat → Int32) (rounds : Int32) (itk : Int32) (farm : Nat → Int32) (amount : Nat → Int32) (mark : Nat → Int32) (ways : Nat → Int32) (n : Nat) (nb : Nat) (thr : Int32) (hnv : nv ≤ 4) (h0 : (bvS (fun zv => vrooms zv - inv zv) itk nv).1 = -1) : mW l yX3_bestVat cX3_bestVat 5 (some .int) 0 0 0 0 D (kTy k) [.ref (a 0)] (wMO k a (nI dy) rooms tanks bests cows (nI nf) vrooms inv vsh (nI nv) (kB ub) vis rounds itk farm amount mark ways (nI n) (nI nb) thr) (some (.int (-1))) (wMO k a (nI dy) rooms tanks bests cows (nI nf) vrooms inv vsh (nI nv) (kB ub) vis rounds itk farm amount mark ways (nI n) (nI nb) 1) := by
  refine mW.of (lv' := [(0, .ref (a 0))]) (by decide) (Nat.le_of_ble_eq_true rfl) rfl ?_
  intro p e s m args below meth c E hr hlk hm hA
  refine k_iconst E (v := (-1)) (by decide) dX3_bestVat_0 ?_
  refine k_istore_n (lv' := [(1, .int (-1)), (0, .ref (a 0))]) E rfl (by decide) rfl dX3_bestVat_1 ?_
  refine k_iconst E (v := 0) (by decide) dX3_bestVat_2 ?_
  refine k_istore_n (lv' := [(2, .int 0), (1, .int (-1)), (0, .ref (a 0))]) E rfl (by decide) rfl dX3_bestVat_3 ?_
  have L4 : ∀ (dn4 : Nat) (i : Nat) (x : Int32), i + dn4 = nv → (x = (bvS (fun zv => vrooms zv - inv zv) itk i).1) → kJ p l e (kRmc 0 0 0 0) s m args below meth c (gW D (va_A (wMO k a (nI dy) rooms tanks bests cows (nI nf) vrooms inv vsh (nI nv) (kB ub) vis rounds itk farm amount mark ways (nI n) (nI nb) thr) s.heap.size) s.heap) 5 0 0 (MQ below (kQw (some (.int (-1))) D (wMO k a (nI dy) rooms tanks bests cows (nI nf) vrooms inv vsh (nI nv) (kB ub) vis rounds itk farm amount mark ways (nI n) (nI nb) thr) (wMO k a (nI dy) rooms tanks bests cows (nI nf) vrooms inv vsh (nI nv) (kB ub) vis rounds itk farm amount mark ways (nI n) (nI nb) 1) s.heap.size) args s 0 0 (va_A (wMO k a (nI dy) rooms tanks bests cows (nI nf) vrooms inv vsh (nI nv) (kB ub) vis rounds itk farm amount mark ways (nI n) (nI nb) thr) s.heap.size)) (wMO k a (nI dy) rooms tanks bests cows (nI nf) vrooms inv vsh (nI nv) (kB ub) vis rounds itk farm amount mark ways (nI n) (nI nb) thr) 4 [(0, .ref (a 0)), (1, .int x), (2, .int (nI i))] [] := by
    intro dn4
    induction dn4 with
    | zero =>
      intro i x hd4 hp
      refine k_iload_n E 2 rfl rfl dX3_bestVat_4 ?_
      refine k_aload_n E 0 rfl rfl dX3_bestVat_5 ?_
      refine k_get E inX3 0 rfl rfl 9 (by decide) q_684 rfl rfl dX3_bestVat_6 ?_
      refine k_icmp_ge E (tgt := 80) (by decide) dX3_bestVat_9 (fun c9 => ?_) (fun c9 => absurd ((not_congr (nI_leI (a := nv) (b := i) (by omega) (by omega))).mp c9) (by omega))
      have c9 := (nI_leI (a := nv) (b := i) (by omega) (by omega)).mp c9
      refine k_aload_n E 0 rfl rfl dX3_bestVat_80 ?_
      refine k_iload_n E 1 rfl rfl dX3_bestVat_81 ?_
      refine k_iconst E (v := (-1)) (by decide) dX3_bestVat_82 ?_
      refine k_icmp_ne E (tgt := 90) (by decide) dX3_bestVat_83 (fun c83 => absurd c83 (not_not_intro (by rw [hp, show i = nv by omega]; exact h0))) (fun c83 => ?_)
      refine k_iconst E (v := 1) (by decide) dX3_bestVat_86 ?_
      refine k_goto E (tgt := 91) (by decide) dX3_bestVat_87 ?_
      refine k_put (ws' := (wMO k a (nI dy) rooms tanks bests cows (nI nf) vrooms inv vsh (nI nv) (kB ub) vis rounds itk farm amount mark ways (nI n) (nI nb) 1)) E inX3 tyX3 tyX3_ok nmX3 0 rfl rfl 20 (by decide) q_695 rfl rfl rfl rfl (Nat.le_of_ble_eq_true rfl) rfl dX3_bestVat_91 ?_
      refine k_iload_n E 1 rfl rfl dX3_bestVat_94 ?_
      exact kw_iret E hr hlk (by rw [hp, show i = nv by omega, h0]) rfl (by decide) (by decide) dX3_bestVat_95
    | succ dn4 ih4 =>
      intro i x hd4 hp
      refine k_iload_n E 2 rfl rfl dX3_bestVat_4 ?_
      refine k_aload_n E 0 rfl rfl dX3_bestVat_5 ?_
      refine k_get E inX3 0 rfl rfl 9 (by decide) q_684 rfl rfl dX3_bestVat_6 ?_
      refine k_icmp_ge E (tgt := 80) (by decide) dX3_bestVat_9 (fun c9 => absurd ((nI_leI (a := nv) (b := i) (by omega) (by omega)).mp c9) (by omega)) (fun c9 => ?_)
      have c9 := (not_congr (nI_leI (a := nv) (b := i) (by omega) (by omega))).mp c9
      refine k_aload_n E 0 rfl rfl dX3_bestVat_12 ?_
      refine k_get E inX3 0 rfl rfl 6 (by decide) q_681 rfl rfl dX3_bestVat_13 ?_
      refine k_iload_n E 2 rfl rfl dX3_bestVat_16 ?_
      refine k_iald E (j := i) 5 0 rfl rfl rfl (by omega) (by decide) dX3_bestVat_17 ?_
      refine k_aload_n E 0 rfl rfl dX3_bestVat_18 ?_
      refine k_get E inX3 0 rfl rfl 7 (by decide) q_682 rfl rfl dX3_bestVat_19 ?_
      refine k_iload_n E 2 rfl rfl dX3_bestVat_22 ?_
      refine k_iald E (j := i) 6 0 rfl rfl rfl (by omega) (by decide) dX3_bestVat_23 ?_
      refine k_isub E dX3_bestVat_24 ?_
      refine k_istore_n (lv' := [(3, .int ((vrooms i) - (inv i))), (0, .ref (a 0)), (1, .int x), (2, .int (nI i))]) E rfl (by decide) rfl dX3_bestVat_25 ?_
      refine k_iload_n E 0 rfl rfl dX3_bestVat_26 ?_
      refine k_aload_n E 1 rfl rfl dX3_bestVat_27 ?_
      refine k_get E inX3 0 rfl rfl 13 (by decide) q_688 rfl rfl dX3_bestVat_28 ?_
      refine k_icmp_lt E (tgt := 60) (by decide) dX3_bestVat_31 (fun c31 => ?_) (fun c31 => ?_)
      · skip
        refine k_iconst E (v := 0) (by decide) dX3_bestVat_60 ?_
        refine k_istore (lv' := [(4, .int 0), (3, .int ((vrooms i) - (inv i))), (0, .ref (a 0)), (1, .int x), (2, .int (nI i))]) E (by decide) rfl dX3_bestVat_61 ?_
        refine k_iload E 0 rfl dX3_bestVat_63 ?_
        refine k_if_eq E (tgt := 72) (by decide) dX3_bestVat_65 (fun _ => ?_) (fun h => absurd (by decide) h)
        refine k_iload_n E 3 rfl rfl dX3_bestVat_72 ?_
        refine k_istore_n (lv' := [(1, .int x), (4, .int 0), (3, .int ((vrooms i) - (inv i))), (0, .ref (a 0)), (2, .int (nI i))]) E rfl (by decide) rfl dX3_bestVat_73 ?_
        refine k_iinc (q := 4) (v := nI (i + 1)) (lv' := [(2, .int (nI (i + 1))), (1, .int x), (4, .int 0), (3, .int ((vrooms i) - (inv i))), (0, .ref (a 0))]) E rfl (nI_inc _) (by decide) rfl dX3_bestVat_74 ?_
        refine k_goto E (tgt := 4) (by decide) dX3_bestVat_77 ?_
        refine k_lv [4, 1, 0] rfl ?_
        exact ih4 (i + 1) x (by omega) (by rw [bvS]; first | (simp [c31]; exact hp) | (simp [c31, ← hp, c36]; done) | (simp [c31, ejb, nI_pos (show jb < 2 ^ 31 by omega), Int32.not_lt.mpr c53]; rw [hp, ejb]; done) | (simp [c31, ejb, Int32.not_le.mp c53]; done))
      · skip
        refine k_iload_n E 2 rfl rfl dX3_bestVat_34 ?_
        refine k_iconst E (v := (-1)) (by decide) dX3_bestVat_35 ?_
        refine k_icmp_eq E (tgt := 56) (by decide) dX3_bestVat_36 (fun c36 => ?_) (fun c36 => ?_)
        · skip
          refine k_iconst E (v := 1) (by decide) dX3_bestVat_56 ?_
          refine k_goto E (tgt := 61) (by decide) dX3_bestVat_57 ?_
          refine k_istore (lv' := [(4, .int 1), (3, .int ((vrooms i) - (inv i))), (0, .ref (a 0)), (1, .int x), (2, .int (nI i))]) E (by decide) rfl dX3_bestVat_61 ?_
          refine k_iload E 0 rfl dX3_bestVat_63 ?_
          refine k_if_eq E (tgt := 72) (by decide) dX3_bestVat_65 (fun h => absurd h (by decide)) (fun _ => ?_)
          refine k_iload_n E 4 rfl rfl dX3_bestVat_68 ?_
          refine k_goto E (tgt := 73) (by decide) dX3_bestVat_69 ?_
          refine k_istore_n (lv' := [(1, .int (nI i)), (4, .int 1), (3, .int ((vrooms i) - (inv i))), (0, .ref (a 0)), (2, .int (nI i))]) E rfl (by decide) rfl dX3_bestVat_73 ?_
          refine k_iinc (q := 4) (v := nI (i + 1)) (lv' := [(2, .int (nI (i + 1))), (1, .int (nI i)), (4, .int 1), (3, .int ((vrooms i) - (inv i))), (0, .ref (a 0))]) E rfl (nI_inc _) (by decide) rfl dX3_bestVat_74 ?_
          refine k_goto E (tgt := 4) (by decide) dX3_bestVat_77 ?_
          refine k_lv [4, 1, 0] rfl ?_
          exact ih4 (i + 1) (nI i) (by omega) (by rw [bvS]; first | (simp [c31]; exact hp) | (simp [c31, ← hp, c36]; done) | (simp [c31, ejb, nI_pos (show jb < 2 ^ 31 by omega), Int32.not_lt.mpr c53]; rw [hp, ejb]; done) | (simp [c31, ejb, Int32.not_le.mp c53]; done))
        · skip
          obtain ⟨jb, hjb, ejb⟩ := (bvS_cases (fun zv => vrooms zv - inv zv) itk i).resolve_left (by rw [← hp]; exact c36)
          have exj : x = nI jb := by rw [hp, ejb]
          refine k_iload_n E 0 rfl rfl dX3_bestVat_39 ?_
          refine k_aload_n E 1 rfl rfl dX3_bestVat_40 ?_
          refine k_get E inX3 0 rfl rfl 6 (by decide) q_681 rfl rfl dX3_bestVat_41 ?_
          refine k_iload_n E 2 rfl rfl dX3_bestVat_44 ?_
          refine k_iald E (j := jb) 5 0 rfl rfl exj (by omega) (by decide) dX3_bestVat_45 ?_
          refine k_aload_n E 1 rfl rfl dX3_bestVat_46 ?_
          refine k_get E inX3 0 rfl rfl 7 (by decide) q_682 rfl rfl dX3_bestVat_47 ?_
          refine k_iload_n E 2 rfl rfl dX3_bestVat_50 ?_
          refine k_iald E (j := jb) 6 0 rfl rfl exj (by omega) (by decide) dX3_bestVat_51 ?_
          refine k_isub E dX3_bestVat_52 ?_
          refine k_icmp_ge E (tgt := 60) (by decide) dX3_bestVat_53 (fun c53 => ?_) (fun c53 => ?_)
          · skip
            refine k_iconst E (v := 0) (by decide) dX3_bestVat_60 ?_
            refine k_istore (lv' := [(4, .int 0), (3, .int ((vrooms i) - (inv i))), (0, .ref (a 0)), (1, .int x), (2, .int (nI i))]) E (by decide) rfl dX3_bestVat_61 ?_
            refine k_iload E 0 rfl dX3_bestVat_63 ?_
            refine k_if_eq E (tgt := 72) (by decide) dX3_bestVat_65 (fun _ => ?_) (fun h => absurd (by decide) h)
            refine k_iload_n E 3 rfl rfl dX3_bestVat_72 ?_
            refine k_istore_n (lv' := [(1, .int x), (4, .int 0), (3, .int ((vrooms i) - (inv i))), (0, .ref (a 0)), (2, .int (nI i))]) E rfl (by decide) rfl dX3_bestVat_73 ?_
            refine k_iinc (q := 4) (v := nI (i + 1)) (lv' := [(2, .int (nI (i + 1))), (1, .int x), (4, .int 0), (3, .int ((vrooms i) - (inv i))), (0, .ref (a 0))]) E rfl (nI_inc _) (by decide) rfl dX3_bestVat_74 ?_
            refine k_goto E (tgt := 4) (by decide) dX3_bestVat_77 ?_
            refine k_lv [4, 1, 0] rfl ?_
            exact ih4 (i + 1) x (by omega) (by rw [bvS]; first | (simp [c31]; exact hp) | (simp [c31, ← hp, c36]; done) | (simp [c31, ejb, nI_pos (show jb < 2 ^ 31 by omega), Int32.not_lt.mpr c53]; rw [hp, ejb]; done) | (simp [c31, ejb, Int32.not_le.mp c53]; done))
          · skip
            refine k_iconst E (v := 1) (by decide) dX3_bestVat_56 ?_
            refine k_goto E (tgt := 61) (by decide) dX3_bestVat_57 ?_
            refine k_istore (lv' := [(4, .int 1), (3, .int ((vrooms i) - (inv i))), (0, .ref (a 0)), (1, .int x), (2, .int (nI i))]) E (by decide) rfl dX3_bestVat_61 ?_
            refine k_iload E 0 rfl dX3_bestVat_63 ?_
            refine k_if_eq E (tgt := 72) (by decide) dX3_bestVat_65 (fun h => absurd h (by decide)) (fun _ => ?_)
            refine k_iload_n E 4 rfl rfl dX3_bestVat_68 ?_
            refine k_goto E (tgt := 73) (by decide) dX3_bestVat_69 ?_
            refine k_istore_n (lv' := [(1, .int (nI i)), (4, .int 1), (3, .int ((vrooms i) - (inv i))), (0, .ref (a 0)), (2, .int (nI i))]) E rfl (by decide) rfl dX3_bestVat_73 ?_
            refine k_iinc (q := 4) (v := nI (i + 1)) (lv' := [(2, .int (nI (i + 1))), (1, .int (nI i)), (4, .int 1), (3, .int ((vrooms i) - (inv i))), (0, .ref (a 0))]) E rfl (nI_inc _) (by decide) rfl dX3_bestVat_74 ?_
            refine k_goto E (tgt := 4) (by decide) dX3_bestVat_77 ?_
            refine k_lv [4, 1, 0] rfl ?_
            exact ih4 (i + 1) (nI i) (by omega) (by rw [bvS]; first | (simp [c31]; exact hp) | (simp [c31, ← hp, c36]; done) | (simp [c31, ejb, nI_pos (show jb < 2 ^ 31 by omega), Int32.not_lt.mpr c53]; rw [hp, ejb]; done) | (simp [c31, ejb, Int32.not_le.mp c53]; done))
  refine k_lv [2, 1, 0] rfl ?_
  exact L4 (nv - 0) 0 (-1) (by omega) rfl
set_option maxRecDepth 100000 in
set_option maxHeartbeats 4000000 in
theorem m_X3_close (l : Launch) (D : va_G) (k : Nat → ClassId) (a : Nat → Nat) (dy : Nat) (rooms : Nat → Int32) (tanks : Nat → Int32) (bests : Nat → Int32) (cows : Nat → Int32) (nf : Nat) (vrooms : Nat → Int32) (inv : Nat → Int32) (vsh : Nat → Int32) (nv : Nat) (ub : Bool) (vis : Nat → Int32) (rounds : Int32) (itk : Int32) (farm : Nat → Int32) (amount : Nat → Int32) (mark : Nat → Int32) (ways : Nat → Int32) (n : Nat) (nb : Nat) (thr : Int32) (j : Nat) (hj : j < nv) (hnv : nv ≤ 4) (hn : n ≤ 100) (hv : ¬ inv j = 0) (hb : nb < 20) : mW l yX3_close cX3_close 3 (some .int) 2 46 0 0 D (kTy k) [.ref (a 0), .int (nI j)] (wMO k a (nI dy) rooms tanks bests cows (nI nf) vrooms inv vsh (nI nv) (kB ub) vis rounds itk farm amount mark ways (nI n) (nI nb) thr) (some (.int (nI nb))) (wMO k a (nI dy) rooms tanks bests cows (nI nf) vrooms (upd inv j 0) (upd vsh j 0) (nI nv) (kB ub) vis rounds itk farm amount mark (wr (fun zi => decide (ways zi = nI j)) (fun _ => 10 + nI nb) ways n) (nI n) (nI (nb + 1)) 0) := by
  refine mW.of (lv' := [(0, .ref (a 0)), (1, .int (nI j))]) (by decide) (Nat.le_of_ble_eq_true rfl) rfl ?_
  intro p e s m args below meth c E hr hlk hm hA
  refine k_aload_n E 0 rfl rfl dX3_close_0 ?_
  refine k_aload_n E 0 rfl rfl dX3_close_1 ?_
  refine k_iload_n E 1 rfl rfl dX3_close_2 ?_
  refine k_callRV [.int (nI j)] E (m_X3_isVat l D k a dy rooms tanks bests cows nf vrooms inv vsh nv ub vis rounds itk farm amount mark ways n nb thr (nI j)) cf_X3_isVat q_800 [0, 1, 2, 3, 4, 5, 6, 7, 8, 9, 10, 11, 12] rfl 0 rfl rfl rfl rfl ⟨by decide, by decide⟩ (Nat.le_of_ble_eq_true rfl) ⟨by decide, by decide⟩ dX3_close_3 ?_
  refine k_steq (st' := [.int (kB (isR (nI j) nv)), .ref (a 0)]) rfl ?_
  refine k_if_ne E (tgt := 13) (by decide) dX3_close_6 (fun c6 => ?_) (fun c6 => absurd (kB_f c6) (by rw [isR_t hj (by omega)]; decide))
  have c6 := kB_t c6
  refine k_aload_n E 0 rfl rfl dX3_close_13 ?_
  refine k_get E inX3 0 rfl rfl 7 (by decide) q_682 rfl rfl dX3_close_14 ?_
  refine k_iload_n E 1 rfl rfl dX3_close_17 ?_
  refine k_iald E (j := j) 6 0 rfl rfl rfl (by omega) (by decide) dX3_close_18 ?_
  refine k_if_ne E (tgt := 26) (by decide) dX3_close_19 (fun c19 => ?_) (fun c19 => absurd c19 hv)
  refine k_aload_n E 0 rfl rfl dX3_close_26 ?_
  refine k_get E inX3 0 rfl rfl 19 (by decide) q_694 rfl rfl dX3_close_27 ?_
  refine k_bipush E (v := 20) (by decide) dX3_close_30 ?_
  refine k_icmp_ne E (tgt := 39) (by decide) dX3_close_32 (fun c32 => ?_) (fun c32 => absurd ((nI_eq (a := nb) (b := 20) (by omega) (by omega)).mp c32) (by omega))
  have c32 := (not_congr (nI_eq (a := nb) (b := 20) (by omega) (by omega))).mp c32
  refine k_iconst E (v := 0) (by decide) dX3_close_39 ?_
  refine k_put (ws' := (wMO k a (nI dy) rooms tanks bests cows (nI nf) vrooms inv vsh (nI nv) (kB ub) vis rounds itk farm amount mark ways (nI n) (nI nb) 0)) E inX3 tyX3 tyX3_ok nmX3 0 rfl rfl 20 (by decide) q_695 rfl rfl rfl rfl (Nat.le_of_ble_eq_true rfl) rfl dX3_close_40 ?_
  refine k_aload_n E 0 rfl rfl dX3_close_43 ?_
  refine k_get E inX3 0 rfl rfl 20 (by decide) q_695 rfl rfl dX3_close_44 ?_
  refine k_if_le E (tgt := 52) (by decide) dX3_close_47 (fun _ => ?_) (fun h => absurd (by decide) h)
  refine k_iconst E (v := 0) (by decide) dX3_close_52 ?_
  refine k_istore_n (lv' := [(2, .int 0), (0, .ref (a 0)), (1, .int (nI j))]) E rfl (by decide) rfl dX3_close_53 ?_
  have L54 : ∀ (dn54 : Nat) (i : Nat) (w_ : Nat → Int32), i + dn54 = n → (w_ = wr (fun zi => decide (ways zi = nI j)) (fun _ => 10 + nI nb) ways i) → kJ p l e (kRmc 2 46 0 0) s m args below meth c (gW D (va_A (wMO k a (nI dy) rooms tanks bests cows (nI nf) vrooms inv vsh (nI nv) (kB ub) vis rounds itk farm amount mark ways (nI n) (nI nb) thr) s.heap.size) s.heap) 3 0 0 (MQ below (kQw (some (.int (nI nb))) D (wMO k a (nI dy) rooms tanks bests cows (nI nf) vrooms inv vsh (nI nv) (kB ub) vis rounds itk farm amount mark ways (nI n) (nI nb) thr) (wMO k a (nI dy) rooms tanks bests cows (nI nf) vrooms (upd inv j 0) (upd vsh j 0) (nI nv) (kB ub) vis rounds itk farm amount mark (wr (fun zi => decide (ways zi = nI j)) (fun _ => 10 + nI nb) ways n) (nI n) (nI (nb + 1)) 0) s.heap.size) args s 0 0 (va_A (wMO k a (nI dy) rooms tanks bests cows (nI nf) vrooms inv vsh (nI nv) (kB ub) vis rounds itk farm amount mark ways (nI n) (nI nb) thr) s.heap.size)) (wMO k a (nI dy) rooms tanks bests cows (nI nf) vrooms inv vsh (nI nv) (kB ub) vis rounds itk farm amount mark w_ (nI n) (nI nb) 0) 54 [(0, .ref (a 0)), (1, .int (nI j)), (2, .int (nI i))] [] := by
    intro dn54
    induction dn54 with
    | zero =>
      intro i w_ hd54 hw
      refine k_iload_n E 2 rfl rfl dX3_close_54 ?_
      refine k_aload_n E 0 rfl rfl dX3_close_55 ?_
      refine k_get E inX3 0 rfl rfl 18 (by decide) q_693 rfl rfl dX3_close_56 ?_
      refine k_icmp_ge E (tgt := 100) (by decide) dX3_close_59 (fun c59 => ?_) (fun c59 => absurd ((not_congr (nI_leI (a := n) (b := i) (by omega) (by omega))).mp c59) (by omega))
      have c59 := (nI_leI (a := n) (b := i) (by omega) (by omega)).mp c59
      refine k_aload_n E 0 rfl rfl dX3_close_100 ?_
      refine k_get E inX3 0 rfl rfl 7 (by decide) q_682 rfl rfl dX3_close_101 ?_
      refine k_iload_n E 1 rfl rfl dX3_close_104 ?_
      refine k_iconst E (v := 0) (by decide) dX3_close_105 ?_
      refine k_iast (y := 0) (j := j) (ws' := (wMO k a (nI dy) rooms tanks bests cows (nI nf) vrooms (upd inv j 0) vsh (nI nv) (kB ub) vis rounds itk farm amount mark w_ (nI n) (nI nb) 0)) E 6 0 rfl rfl rfl (by omega) (by decide) rfl rfl dX3_close_106 ?_
      refine k_aload_n E 0 rfl rfl dX3_close_107 ?_
      refine k_get E inX3 0 rfl rfl 8 (by decide) q_683 rfl rfl dX3_close_108 ?_
      refine k_iload_n E 1 rfl rfl dX3_close_111 ?_
      refine k_iconst E (v := 0) (by decide) dX3_close_112 ?_
      refine k_iast (y := 0) (j := j) (ws' := (wMO k a (nI dy) rooms tanks bests cows (nI nf) vrooms (upd inv j 0) (upd vsh j 0) (nI nv) (kB ub) vis rounds itk farm amount mark w_ (nI n) (nI nb) 0)) E 7 0 rfl rfl rfl (by omega) (by decide) rfl rfl dX3_close_113 ?_
      refine k_aload_n E 0 rfl rfl dX3_close_114 ?_
      refine k_dup E rfl dX3_close_115 ?_
      refine k_get E inX3 0 rfl rfl 19 (by decide) q_694 rfl rfl dX3_close_116 ?_
      refine k_iconst E (v := 1) (by decide) dX3_close_119 ?_
      refine k_iadd E dX3_close_120 ?_
      refine k_steq (st' := [.int (nI (nb + 1)), .ref (a 0)]) (by rw [show (nI nb) + 1 = nI (nb + 1) from nI_1 nb]) ?_
      refine k_put (ws' := (wMO k a (nI dy) rooms tanks bests cows (nI nf) vrooms (upd inv j 0) (upd vsh j 0) (nI nv) (kB ub) vis rounds itk farm amount mark w_ (nI n) (nI (nb + 1)) 0)) E inX3 tyX3 tyX3_ok nmX3 0 rfl rfl 19 (by decide) q_694 rfl rfl rfl rfl (Nat.le_of_ble_eq_true rfl) rfl dX3_close_121 ?_
      refine k_aload_n E 0 rfl rfl dX3_close_124 ?_
      refine k_get E inX3 0 rfl rfl 19 (by decide) q_694 rfl rfl dX3_close_125 ?_
      refine k_iconst E (v := 1) (by decide) dX3_close_128 ?_
      refine k_isub E dX3_close_129 ?_
      refine k_steq (st' := [.int (nI nb)]) (by rw [show (nI (nb + 1)) - 1 = nI nb from nI_pred nb]) ?_
      exact kw_iret E hr hlk rfl (by rw [hw, show i = n by omega]) (by decide) (by decide) dX3_close_130
    | succ dn54 ih54 =>
      intro i w_ hd54 hw
      refine k_iload_n E 2 rfl rfl dX3_close_54 ?_
      refine k_aload_n E 0 rfl rfl dX3_close_55 ?_
      refine k_get E inX3 0 rfl rfl 18 (by decide) q_693 rfl rfl dX3_close_56 ?_
      refine k_icmp_ge E (tgt := 100) (by decide) dX3_close_59 (fun c59 => absurd ((nI_leI (a := n) (b := i) (by omega) (by omega)).mp c59) (by omega)) (fun c59 => ?_)
      have c59 := (not_congr (nI_leI (a := n) (b := i) (by omega) (by omega))).mp c59
      refine k_aload_n E 0 rfl rfl dX3_close_62 ?_
      refine k_get E inX3 0 rfl rfl 17 (by decide) q_692 rfl rfl dX3_close_63 ?_
      refine k_iload_n E 2 rfl rfl dX3_close_66 ?_
      refine k_aload_n E 0 rfl rfl dX3_close_67 ?_
      refine k_get E inX3 0 rfl rfl 17 (by decide) q_692 rfl rfl dX3_close_68 ?_
      refine k_iload_n E 2 rfl rfl dX3_close_71 ?_
      refine k_iald E (j := i) 12 0 rfl rfl rfl (by omega) (by decide) dX3_close_72 ?_
      refine k_iload_n E 1 rfl rfl dX3_close_73 ?_
      refine k_icmp_ne E (tgt := 87) (by decide) dX3_close_74 (fun c74 => ?_) (fun c74 => ?_)
      · skip
        refine k_aload_n E 0 rfl rfl dX3_close_87 ?_
        refine k_get E inX3 0 rfl rfl 17 (by decide) q_692 rfl rfl dX3_close_88 ?_
        refine k_iload_n E 2 rfl rfl dX3_close_91 ?_
        refine k_iald E (j := i) 12 0 rfl rfl rfl (by omega) (by decide) dX3_close_92 ?_
        refine k_iast (y := w_ i) (j := i) (ws' := (wMO k a (nI dy) rooms tanks bests cows (nI nf) vrooms inv vsh (nI nv) (kB ub) vis rounds itk farm amount mark (upd w_ i (w_ i)) (nI n) (nI nb) 0)) E 12 0 rfl rfl rfl (by omega) (by decide) rfl rfl dX3_close_93 ?_
        refine k_iinc (q := 2) (v := nI (i + 1)) (lv' := [(2, .int (nI (i + 1))), (0, .ref (a 0)), (1, .int (nI j))]) E rfl (nI_inc _) (by decide) rfl dX3_close_94 ?_
        refine k_goto E (tgt := 54) (by decide) dX3_close_97 ?_
        refine k_lv [1, 2, 0] rfl ?_
        exact ih54 (i + 1) (upd w_ i (w_ i)) (by omega) (by first | (rw [hw]; exact wr_t (v := fun _ => 10 + nI nb) (by rw [hw, wr_at] at c74; simp [c74])) | (rw [upd_self, hw]; exact wr_f (by rw [hw, wr_at] at c74; simp [c74])))
      · skip
        refine k_bipush E (v := 10) (by decide) dX3_close_77 ?_
        refine k_aload_n E 0 rfl rfl dX3_close_79 ?_
        refine k_get E inX3 0 rfl rfl 19 (by decide) q_694 rfl rfl dX3_close_80 ?_
        refine k_iadd E dX3_close_83 ?_
        refine k_goto E (tgt := 93) (by decide) dX3_close_84 ?_
        refine k_iast (y := 10 + (nI nb)) (j := i) (ws' := (wMO k a (nI dy) rooms tanks bests cows (nI nf) vrooms inv vsh (nI nv) (kB ub) vis rounds itk farm amount mark (upd w_ i (10 + (nI nb))) (nI n) (nI nb) 0)) E 12 0 rfl rfl rfl (by omega) (by decide) rfl rfl dX3_close_93 ?_
        refine k_iinc (q := 2) (v := nI (i + 1)) (lv' := [(2, .int (nI (i + 1))), (0, .ref (a 0)), (1, .int (nI j))]) E rfl (nI_inc _) (by decide) rfl dX3_close_94 ?_
        refine k_goto E (tgt := 54) (by decide) dX3_close_97 ?_
        refine k_lv [1, 2, 0] rfl ?_
        exact ih54 (i + 1) (upd w_ i (10 + (nI nb))) (by omega) (by first | (rw [hw]; exact wr_t (v := fun _ => 10 + nI nb) (by rw [hw, wr_at] at c74; simp [c74])) | (rw [upd_self, hw]; exact wr_f (by rw [hw, wr_at] at c74; simp [c74])))
  refine k_lv [1, 2, 0] rfl ?_
  exact L54 (n - 0) 0 ways (by omega) (wr_0 _ _ _).symm
set_option maxRecDepth 100000 in
set_option maxHeartbeats 4000000 in
theorem m_X3_close_i (l : Launch) (D : va_G) (k : Nat → ClassId) (a : Nat → Nat) (dy : Nat) (rooms : Nat → Int32) (tanks : Nat → Int32) (bests : Nat → Int32) (cows : Nat → Int32) (nf : Nat) (vrooms : Nat → Int32) (inv : Nat → Int32) (vsh : Nat → Int32) (nv : Nat) (ub : Bool) (vis : Nat → Int32) (rounds : Int32) (itk : Int32) (farm : Nat → Int32) (amount : Nat → Int32) (mark : Nat → Int32) (ways : Nat → Int32) (n : Nat) (nb : Nat) (thr : Int32) (fa : Int32) (hb : fa < 0 ∨ nI nv ≤ fa) (hnv : nv ≤ 4) : mW l yX3_close cX3_close 3 (some .int) 2 46 0 0 D (kTy k) [.ref (a 0), .int fa] (wMO k a (nI dy) rooms tanks bests cows (nI nf) vrooms inv vsh (nI nv) (kB ub) vis rounds itk farm amount mark ways (nI n) (nI nb) thr) (some (.int (-1))) (wMO k a (nI dy) rooms tanks bests cows (nI nf) vrooms inv vsh (nI nv) (kB ub) vis rounds itk farm amount mark ways (nI n) (nI nb) 1) := by
  refine mW.of (lv' := [(0, .ref (a 0)), (1, .int fa)]) (by decide) (Nat.le_of_ble_eq_true rfl) rfl ?_
  intro p e s m args below meth c E hr hlk hm hA
  refine k_aload_n E 0 rfl rfl dX3_close_0 ?_
  refine k_aload_n E 0 rfl rfl dX3_close_1 ?_
  refine k_iload_n E 1 rfl rfl dX3_close_2 ?_
  refine k_callRV [.int fa] E (m_X3_isVat l D k a dy rooms tanks bests cows nf vrooms inv vsh nv ub vis rounds itk farm amount mark ways n nb thr fa) cf_X3_isVat q_800 [0, 1, 2, 3, 4, 5, 6, 7, 8, 9, 10, 11, 12] rfl 0 rfl rfl rfl rfl ⟨by decide, by decide⟩ (Nat.le_of_ble_eq_true rfl) ⟨by decide, by decide⟩ dX3_close_3 ?_
  refine k_steq (st' := [.int (kB (isR fa nv)), .ref (a 0)]) rfl ?_
  refine k_if_ne E (tgt := 13) (by decide) dX3_close_6 (fun c6 => absurd (kB_t c6) (by rw [isR_f hb (by omega)]; decide)) (fun c6 => ?_)
  have c6 := kB_f c6
  refine k_iconst E (v := 1) (by decide) dX3_close_9 ?_
  refine k_goto E (tgt := 40) (by decide) dX3_close_10 ?_
  refine k_put (ws' := (wMO k a (nI dy) rooms tanks bests cows (nI nf) vrooms inv vsh (nI nv) (kB ub) vis rounds itk farm amount mark ways (nI n) (nI nb) 1)) E inX3 tyX3 tyX3_ok nmX3 0 rfl rfl 20 (by decide) q_695 rfl rfl rfl rfl (Nat.le_of_ble_eq_true rfl) rfl dX3_close_40 ?_
  refine k_aload_n E 0 rfl rfl dX3_close_43 ?_
  refine k_get E inX3 0 rfl rfl 20 (by decide) q_695 rfl rfl dX3_close_44 ?_
  refine k_if_le E (tgt := 52) (by decide) dX3_close_47 (fun h => absurd h (by decide)) (fun _ => ?_)
  refine k_iconst E (v := (-1)) (by decide) dX3_close_50 ?_
  exact kw_iret E hr hlk rfl rfl (by decide) (by decide) dX3_close_51
set_option maxRecDepth 100000 in
set_option maxHeartbeats 4000000 in
theorem m_X3_close_u (l : Launch) (D : va_G) (k : Nat → ClassId) (a : Nat → Nat) (dy : Nat) (rooms : Nat → Int32) (tanks : Nat → Int32) (bests : Nat → Int32) (cows : Nat → Int32) (nf : Nat) (vrooms : Nat → Int32) (inv : Nat → Int32) (vsh : Nat → Int32) (nv : Nat) (ub : Bool) (vis : Nat → Int32) (rounds : Int32) (itk : Int32) (farm : Nat → Int32) (amount : Nat → Int32) (mark : Nat → Int32) (ways : Nat → Int32) (n : Nat) (nb : Nat) (thr : Int32) (j : Nat) (hj : j < nv) (hnv : nv ≤ 4) (hn : n ≤ 100) (hv : inv j = 0) : mW l yX3_close cX3_close 3 (some .int) 2 46 0 0 D (kTy k) [.ref (a 0), .int (nI j)] (wMO k a (nI dy) rooms tanks bests cows (nI nf) vrooms inv vsh (nI nv) (kB ub) vis rounds itk farm amount mark ways (nI n) (nI nb) thr) (some (.int (-1))) (wMO k a (nI dy) rooms tanks bests cows (nI nf) vrooms inv vsh (nI nv) (kB ub) vis rounds itk farm amount mark ways (nI n) (nI nb) 2) := by
  refine mW.of (lv' := [(0, .ref (a 0)), (1, .int (nI j))]) (by decide) (Nat.le_of_ble_eq_true rfl) rfl ?_
  intro p e s m args below meth c E hr hlk hm hA
  refine k_aload_n E 0 rfl rfl dX3_close_0 ?_
  refine k_aload_n E 0 rfl rfl dX3_close_1 ?_
  refine k_iload_n E 1 rfl rfl dX3_close_2 ?_
  refine k_callRV [.int (nI j)] E (m_X3_isVat l D k a dy rooms tanks bests cows nf vrooms inv vsh nv ub vis rounds itk farm amount mark ways n nb thr (nI j)) cf_X3_isVat q_800 [0, 1, 2, 3, 4, 5, 6, 7, 8, 9, 10, 11, 12] rfl 0 rfl rfl rfl rfl ⟨by decide, by decide⟩ (Nat.le_of_ble_eq_true rfl) ⟨by decide, by decide⟩ dX3_close_3 ?_
  refine k_steq (st' := [.int (kB (isR (nI j) nv)), .ref (a 0)]) rfl ?_
  refine k_if_ne E (tgt := 13) (by decide) dX3_close_6 (fun c6 => ?_) (fun c6 => absurd (kB_f c6) (by rw [isR_t hj (by omega)]; decide))
  have c6 := kB_t c6
  refine k_aload_n E 0 rfl rfl dX3_close_13 ?_
  refine k_get E inX3 0 rfl rfl 7 (by decide) q_682 rfl rfl dX3_close_14 ?_
  refine k_iload_n E 1 rfl rfl dX3_close_17 ?_
  refine k_iald E (j := j) 6 0 rfl rfl rfl (by omega) (by decide) dX3_close_18 ?_
  refine k_if_ne E (tgt := 26) (by decide) dX3_close_19 (fun c19 => absurd c19 (not_not_intro hv)) (fun c19 => ?_)
  refine k_iconst E (v := 2) (by decide) dX3_close_22 ?_
  refine k_goto E (tgt := 40) (by decide) dX3_close_23 ?_
  refine k_put (ws' := (wMO k a (nI dy) rooms tanks bests cows (nI nf) vrooms inv vsh (nI nv) (kB ub) vis rounds itk farm amount mark ways (nI n) (nI nb) 2)) E inX3 tyX3 tyX3_ok nmX3 0 rfl rfl 20 (by decide) q_695 rfl rfl rfl rfl (Nat.le_of_ble_eq_true rfl) rfl dX3_close_40 ?_
  refine k_aload_n E 0 rfl rfl dX3_close_43 ?_
  refine k_get E inX3 0 rfl rfl 20 (by decide) q_695 rfl rfl dX3_close_44 ?_
  refine k_if_le E (tgt := 52) (by decide) dX3_close_47 (fun h => absurd h (by decide)) (fun _ => ?_)
  refine k_iconst E (v := (-1)) (by decide) dX3_close_50 ?_
  exact kw_iret E hr hlk rfl rfl (by decide) (by decide) dX3_close_51
set_option maxRecDepth 100000 in
set_option maxHeartbeats 4000000 in
theorem m_X3_close_s (l : Launch) (D : va_G) (k : Nat → ClassId) (a : Nat → Nat) (dy : Nat) (rooms : Nat → Int32) (tanks : Nat → Int32) (bests : Nat → Int32) (cows : Nat → Int32) (nf : Nat) (vrooms : Nat → Int32) (inv : Nat → Int32) (vsh : Nat → Int32) (nv : Nat) (ub : Bool) (vis : Nat → Int32) (rounds : Int32) (itk : Int32) (farm : Nat → Int32) (amount : Nat → Int32) (mark : Nat → Int32) (ways : Nat → Int32) (n : Nat) (nb : Nat) (thr : Int32) (j : Nat) (hj : j < nv) (hnv : nv ≤ 4) (hn : n ≤ 100) (hv : ¬ inv j = 0) (hb : nb = 20) : mW l yX3_close cX3_close 3 (some .int) 2 46 0 0 D (kTy k) [.ref (a 0), .int (nI j)] (wMO k a (nI dy) rooms tanks bests cows (nI nf) vrooms inv vsh (nI nv) (kB ub) vis rounds itk farm amount mark ways (nI n) (nI nb) thr) (some (.int (-1))) (wMO k a (nI dy) rooms tanks bests cows (nI nf) vrooms inv vsh (nI nv) (kB ub) vis rounds itk farm amount mark ways (nI n) (nI nb) 3) := by
  refine mW.of (lv' := [(0, .ref (a 0)), (1, .int (nI j))]) (by decide) (Nat.le_of_ble_eq_true rfl) rfl ?_
  intro p e s m args below meth c E hr hlk hm hA
  refine k_aload_n E 0 rfl rfl dX3_close_0 ?_
  refine k_aload_n E 0 rfl rfl dX3_close_1 ?_
  refine k_iload_n E 1 rfl rfl dX3_close_2 ?_
  refine k_callRV [.int (nI j)] E (m_X3_isVat l D k a dy rooms tanks bests cows nf vrooms inv vsh nv ub vis rounds itk farm amount mark ways n nb thr (nI j)) cf_X3_isVat q_800 [0, 1, 2, 3, 4, 5, 6, 7, 8, 9, 10, 11, 12] rfl 0 rfl rfl rfl rfl ⟨by decide, by decide⟩ (Nat.le_of_ble_eq_true rfl) ⟨by decide, by decide⟩ dX3_close_3 ?_
  refine k_steq (st' := [.int (kB (isR (nI j) nv)), .ref (a 0)]) rfl ?_
  refine k_if_ne E (tgt := 13) (by decide) dX3_close_6 (fun c6 => ?_) (fun c6 => absurd (kB_f c6) (by rw [isR_t hj (by omega)]; decide))
  have c6 := kB_t c6
  refine k_aload_n E 0 rfl rfl dX3_close_13 ?_
  refine k_get E inX3 0 rfl rfl 7 (by decide) q_682 rfl rfl dX3_close_14 ?_
  refine k_iload_n E 1 rfl rfl dX3_close_17 ?_
  refine k_iald E (j := j) 6 0 rfl rfl rfl (by omega) (by decide) dX3_close_18 ?_
  refine k_if_ne E (tgt := 26) (by decide) dX3_close_19 (fun c19 => ?_) (fun c19 => absurd c19 hv)
  refine k_aload_n E 0 rfl rfl dX3_close_26 ?_
  refine k_get E inX3 0 rfl rfl 19 (by decide) q_694 rfl rfl dX3_close_27 ?_
  refine k_bipush E (v := 20) (by decide) dX3_close_30 ?_
  refine k_icmp_ne E (tgt := 39) (by decide) dX3_close_32 (fun c32 => absurd ((not_congr (nI_eq (a := nb) (b := 20) (by omega) (by omega))).mp c32) (by omega)) (fun c32 => ?_)
  have c32 := (nI_eq (a := nb) (b := 20) (by omega) (by omega)).mp c32
  refine k_iconst E (v := 3) (by decide) dX3_close_35 ?_
  refine k_goto E (tgt := 40) (by decide) dX3_close_36 ?_
  refine k_put (ws' := (wMO k a (nI dy) rooms tanks bests cows (nI nf) vrooms inv vsh (nI nv) (kB ub) vis rounds itk farm amount mark ways (nI n) (nI nb) 3)) E inX3 tyX3 tyX3_ok nmX3 0 rfl rfl 20 (by decide) q_695 rfl rfl rfl rfl (Nat.le_of_ble_eq_true rfl) rfl dX3_close_40 ?_
  refine k_aload_n E 0 rfl rfl dX3_close_43 ?_
  refine k_get E inX3 0 rfl rfl 20 (by decide) q_695 rfl rfl dX3_close_44 ?_
  refine k_if_le E (tgt := 52) (by decide) dX3_close_47 (fun h => absurd h (by decide)) (fun _ => ?_)
  refine k_iconst E (v := (-1)) (by decide) dX3_close_50 ?_
  exact kw_iret E hr hlk rfl rfl (by decide) (by decide) dX3_close_51
