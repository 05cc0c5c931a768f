set_option maxRecDepth 100000 in
set_option maxHeartbeats 4000000 in
theorem m_X3_samples (l : Launch) (D : va_G) (k : Nat → ClassId) (a : Nat → Nat) (dy : Nat) (rooms : Nat → Int32) (tanks : Nat → Int32) (bests : Nat → Int32) (cows : Nat → Int32) (nf : Nat) (vrooms : Nat → Int32) (inv : Nat → Int32) (vsh : Nat → Int32) (nv : Nat) (ub : Bool) (vis : Nat → Int32) (rounds : Int32) (itk : Int32) (farm : Nat → Int32) (amount : Nat → Int32) (mark : Nat → Int32) (ways : Nat → Int32) (n : Nat) (nb : Nat) (thr : Int32)  : mW l yX3_samples cX3_samples 1 (some .int) 0 0 0 0 D (kTy k) [.ref (a 0)] (wMO k a (nI dy) rooms tanks bests cows (nI nf) vrooms inv vsh (nI nv) (kB ub) vis rounds itk farm amount mark ways (nI n) (nI nb) thr) (some (.int (nI n))) (wMO k a (nI dy) rooms tanks bests cows (nI nf) vrooms inv vsh (nI nv) (kB ub) vis rounds itk farm amount mark ways (nI n) (nI nb) 0) := by
  refine mW.of (lv' := [(0, .ref (a 0))]) (by decide) (Nat.le_of_ble_eq_true rfl) rfl ?_
  intro p e s m args below meth c E hr hlk hm hA
  refine k_aload_n E 0 rfl rfl dX3_samples_0 ?_
  refine k_iconst E (v := 0) (by decide) dX3_samples_1 ?_
  refine k_put (ws' := (wMO k a (nI dy) rooms tanks bests cows (nI nf) vrooms inv vsh (nI nv) (kB ub) vis rounds itk farm amount mark ways (nI n) (nI nb) 0)) E inX3 tyX3 tyX3_ok nmX3 0 rfl rfl 20 (by decide) q_695 rfl rfl rfl rfl (Nat.le_of_ble_eq_true rfl) rfl dX3_samples_2 ?_
  refine k_aload_n E 0 rfl rfl dX3_samples_5 ?_
  refine k_get E inX3 0 rfl rfl 18 (by decide) q_693 rfl rfl dX3_samples_6 ?_
  exact kw_iret E hr hlk rfl rfl (by decide) (by decide) dX3_samples_9
set_option maxRecDepth 100000 in
set_option maxHeartbeats 4000000 in
theorem m_X3_batches (l : Launch) (D : va_G) (k : Nat → ClassId) (a : Nat → Nat) (dy : Nat) (rooms : Nat → Int32) (tanks : Nat → Int32) (bests : Nat → Int32) (cows : Nat → Int32) (nf : Nat) (vrooms : Nat → Int32) (inv : Nat → Int32) (vsh : Nat → Int32) (nv : Nat) (ub : Bool) (vis : Nat → Int32) (rounds : Int32) (itk : Int32) (farm : Nat → Int32) (amount : Nat → Int32) (mark : Nat → Int32) (ways : Nat → Int32) (n : Nat) (nb : Nat) (thr : Int32)  : mW l yX3_batches cX3_batches 1 (some .int) 0 0 0 0 D (kTy k) [.ref (a 0)] (wMO k a (nI dy) rooms tanks bests cows (nI nf) vrooms inv vsh (nI nv) (kB ub) vis rounds itk farm amount mark ways (nI n) (nI nb) thr) (some (.int (nI nb))) (wMO k a (nI dy) rooms tanks bests cows (nI nf) vrooms inv vsh (nI nv) (kB ub) vis rounds itk farm amount mark ways (nI n) (nI nb) 0) := by
  refine mW.of (lv' := [(0, .ref (a 0))]) (by decide) (Nat.le_of_ble_eq_true rfl) rfl ?_
  intro p e s m args below meth c E hr hlk hm hA
  refine k_aload_n E 0 rfl rfl dX3_batches_0 ?_
  refine k_iconst E (v := 0) (by decide) dX3_batches_1 ?_
  refine k_put (ws' := (wMO k a (nI dy) rooms tanks bests cows (nI nf) vrooms inv vsh (nI nv) (kB ub) vis rounds itk farm amount mark ways (nI n) (nI nb) 0)) E inX3 tyX3 tyX3_ok nmX3 0 rfl rfl 20 (by decide) q_695 rfl rfl rfl rfl (Nat.le_of_ble_eq_true rfl) rfl dX3_batches_2 ?_
  refine k_aload_n E 0 rfl rfl dX3_batches_5 ?_
  refine k_get E inX3 0 rfl rfl 19 (by decide) q_694 rfl rfl dX3_batches_6 ?_
  exact kw_iret E hr hlk rfl rfl (by decide) (by decide) dX3_batches_9
set_option maxRecDepth 100000 in
set_option maxHeartbeats 4000000 in
theorem m_X3_isSample (l : Launch) (D : va_G) (k : Nat → ClassId) (a : Nat → Nat) (dy : Nat) (rooms : Nat → Int32) (tanks : Nat → Int32) (bests : Nat → Int32) (cows : Nat → Int32) (nf : Nat) (vrooms : Nat → Int32) (inv : Nat → Int32) (vsh : Nat → Int32) (nv : Nat) (ub : Bool) (vis : Nat → Int32) (rounds : Int32) (itk : Int32) (farm : Nat → Int32) (amount : Nat → Int32) (mark : Nat → Int32) (ways : Nat → Int32) (n : Nat) (nb : Nat) (thr : Int32) (j : Nat) (hj : j < n) (hn : n ≤ 100) : mW l yX3_isSample cX3_isSample 2 (some .boolean) 1 25 0 0 D (kTy k) [.ref (a 0), .int (nI j)] (wMO k a (nI dy) rooms tanks bests cows (nI nf) vrooms inv vsh (nI nv) (kB ub) vis rounds itk farm amount mark ways (nI n) (nI nb) thr) (some (.int (kB true))) (wMO k a (nI dy) rooms tanks bests cows (nI nf) vrooms inv vsh (nI nv) (kB ub) vis rounds itk farm amount mark ways (nI n) (nI nb) 0) := by
  refine mW.of (lv' := [(0, .ref (a 0)), (1, .int (nI j))]) (by decide) (Nat.le_of_ble_eq_true rfl) rfl ?_
  intro p e s m args below meth c E hr hlk hm hA
  refine k_aload_n E 0 rfl rfl dX3_isSample_0 ?_
  refine k_iload_n E 1 rfl rfl dX3_isSample_1 ?_
  refine k_i2l E (v := (nI j).toInt64) rfl dX3_isSample_2 ?_
  refine k_lconst E (v := 0) (by decide) dX3_isSample_3 ?_
  refine k_aload_n E 0 rfl rfl dX3_isSample_4 ?_
  refine k_get E inX3 0 rfl rfl 18 (by decide) q_693 rfl rfl dX3_isSample_5 ?_
  refine k_iconst E (v := 1) (by decide) dX3_isSample_8 ?_
  refine k_isub E dX3_isSample_9 ?_
  refine k_i2l E (v := ((nI n) - 1).toInt64) rfl dX3_isSample_10 ?_
  refine k_callRS [.long ((nI j).toInt64), .long 0, .long (((nI n) - 1).toInt64)] E (m_X3_in l D k ((nI j).toInt64) 0 (((nI n) - 1).toInt64)) cf_X3_in q_749 [] rfl rfl rfl ⟨by decide, by decide⟩ (Nat.le_of_ble_eq_true rfl) ⟨by decide, by decide⟩ dX3_isSample_11 ?_
  refine k_steq (st' := [.int (kB (inL ((nI j).toInt64) 0 (((nI n) - 1).toInt64))), .ref (a 0)]) rfl ?_
  refine k_if_eq E (tgt := 21) (by decide) dX3_isSample_14 (fun c14 => absurd (kB_f c14) (by first | (rw [isR_t hj (by omega)]; decide) | (rw [show inL _ _ _ = true from isR_t hj (by omega)]; decide))) (fun c14 => ?_)
  have c14 := kB_t c14
  refine k_iconst E (v := 0) (by decide) dX3_isSample_17 ?_
  refine k_goto E (tgt := 22) (by decide) dX3_isSample_18 ?_
  refine k_put (ws' := (wMO k a (nI dy) rooms tanks bests cows (nI nf) vrooms inv vsh (nI nv) (kB ub) vis rounds itk farm amount mark ways (nI n) (nI nb) 0)) E inX3 tyX3 tyX3_ok nmX3 0 rfl rfl 20 (by decide) q_695 rfl rfl rfl rfl (Nat.le_of_ble_eq_true rfl) rfl dX3_isSample_22 ?_
  refine k_aload_n E 0 rfl rfl dX3_isSample_25 ?_
  refine k_get E inX3 0 rfl rfl 20 (by decide) q_695 rfl rfl dX3_isSample_26 ?_
  refine k_if_ne E (tgt := 36) (by decide) dX3_isSample_29 (fun h => absurd (by decide) h) (fun _ => ?_)
  refine k_iconst E (v := 1) (by decide) dX3_isSample_32 ?_
  refine k_goto E (tgt := 37) (by decide) dX3_isSample_33 ?_
  exact kw_zret E rfl hr hlk rfl rfl (by decide) (by decide) dX3_isSample_37
set_option maxRecDepth 100000 in
set_option maxHeartbeats 4000000 in
theorem m_X3_isSample_b (l : Launch) (D : va_G) (k : Nat → ClassId) (a : Nat → Nat) (dy : Nat) (rooms : Nat → Int32) (tanks : Nat → Int32) (bests : Nat → Int32) (cows : Nat → Int32) (nf : Nat) (vrooms : Nat → Int32) (inv : Nat → Int32) (vsh : Nat → Int32) (nv : Nat) (ub : Bool) (vis : Nat → Int32) (rounds : Int32) (itk : Int32) (farm : Nat → Int32) (amount : Nat → Int32) (mark : Nat → Int32) (ways : Nat → Int32) (n : Nat) (nb : Nat) (thr : Int32) (fa : Int32) (hb : fa < 0 ∨ nI n ≤ fa) (hn : n ≤ 100) : mW l yX3_isSample cX3_isSample 2 (some .boolean) 1 25 0 0 D (kTy k) [.ref (a 0), .int fa] (wMO k a (nI dy) rooms tanks bests cows (nI nf) vrooms inv vsh (nI nv) (kB ub) vis rounds itk farm amount mark ways (nI n) (nI nb) thr) (some (.int (kB false))) (wMO k a (nI dy) rooms tanks bests cows (nI nf) vrooms inv vsh (nI nv) (kB ub) vis rounds itk farm amount mark ways (nI n) (nI nb) 1) := by
  refine mW.of (lv' := [(0, .ref (a 0)), (1, .int fa)]) (by decide) (Nat.le_of_ble_eq_true rfl) rfl ?_
  intro p e s m args below meth c E hr hlk hm hA
  refine k_aload_n E 0 rfl rfl dX3_isSample_0 ?_
  refine k_iload_n E 1 rfl rfl dX3_isSample_1 ?_
  refine k_i2l E (v := fa.toInt64) rfl dX3_isSample_2 ?_
  refine k_lconst E (v := 0) (by decide) dX3_isSample_3 ?_
  refine k_aload_n E 0 rfl rfl dX3_isSample_4 ?_
  refine k_get E inX3 0 rfl rfl 18 (by decide) q_693 rfl rfl dX3_isSample_5 ?_
  refine k_iconst E (v := 1) (by decide) dX3_isSample_8 ?_
  refine k_isub E dX3_isSample_9 ?_
  refine k_i2l E (v := ((nI n) - 1).toInt64) rfl dX3_isSample_10 ?_
  refine k_callRS [.long fa.toInt64, .long 0, .long (((nI n) - 1).toInt64)] E (m_X3_in l D k fa.toInt64 0 (((nI n) - 1).toInt64)) cf_X3_in q_749 [] rfl rfl rfl ⟨by decide, by decide⟩ (Nat.le_of_ble_eq_true rfl) ⟨by decide, by decide⟩ dX3_isSample_11 ?_
  refine k_steq (st' := [.int (kB (inL fa.toInt64 0 (((nI n) - 1).toInt64))), .ref (a 0)]) rfl ?_
  refine k_if_eq E (tgt := 21) (by decide) dX3_isSample_14 (fun c14 => ?_) (fun c14 => absurd (kB_t c14) (by first | (rw [isR_f hb (by omega)]; decide) | (rw [show inL _ _ _ = false from isR_f hb (by omega)]; decide)))
  have c14 := kB_f c14
  refine k_iconst E (v := 1) (by decide) dX3_isSample_21 ?_
  refine k_put (ws' := (wMO k a (nI dy) rooms tanks bests cows (nI nf) vrooms inv vsh (nI nv) (kB ub) vis rounds itk farm amount mark ways (nI n) (nI nb) 1)) E inX3 tyX3 tyX3_ok nmX3 0 rfl rfl 20 (by decide) q_695 rfl rfl rfl rfl (Nat.le_of_ble_eq_true rfl) rfl dX3_isSample_22 ?_
  refine k_aload_n E 0 rfl rfl dX3_isSample_25 ?_
  refine k_get E inX3 0 rfl rfl 20 (by decide) q_695 rfl rfl dX3_isSample_26 ?_
  refine k_if_ne E (tgt := 36) (by decide) dX3_isSample_29 (fun _ => ?_) (fun h => absurd h (by decide))
  refine k_iconst E (v := 0) (by decide) dX3_isSample_36 ?_
  exact kw_zret E rfl hr hlk rfl rfl (by decide) (by decide) dX3_isSample_37
set_option maxRecDepth 100000 in
set_option maxHeartbeats 4000000 in
theorem m_X3_farmOf (l : Launch) (D : va_G) (k : Nat → ClassId) (a : Nat → Nat) (dy : Nat) (rooms : Nat → Int32) (tanks : Nat → Int32) (bests : Nat → Int32) (cows : Nat → Int32) (nf : Nat) (vrooms : Nat → Int32) (inv : Nat → Int32) (vsh : Nat → Int32) (nv : Nat) (ub : Bool) (vis : Nat → Int32) (rounds : Int32) (itk : Int32) (farm : Nat → Int32) (amount : Nat → Int32) (mark : Nat → Int32) (ways : Nat → Int32) (n : Nat) (nb : Nat) (thr : Int32) (j : Nat) (hj : j < n) (hn : n ≤ 100) : mW l yX3_farmOf cX3_farmOf 2 (some .int) 2 46 0 0 D (kTy k) [.ref (a 0), .int (nI j)] (wMO k a (nI dy) rooms tanks bests cows (nI nf) vrooms inv vsh (nI nv) (kB ub) vis rounds itk farm amount mark ways (nI n) (nI nb) thr) (some (.int (farm j))) (wMO k a (nI dy) rooms tanks bests cows (nI nf) vrooms inv vsh (nI nv) (kB ub) vis rounds itk farm amount mark ways (nI n) (nI nb) 0) := by
  refine mW.of (lv' := [(0, .ref (a 0)), (1, .int (nI j))]) (by decide) (Nat.le_of_ble_eq_true rfl) rfl ?_
  intro p e s m args below meth c E hr hlk hm hA
  refine k_aload_n E 0 rfl rfl dX3_farmOf_0 ?_
  refine k_iload_n E 1 rfl rfl dX3_farmOf_1 ?_
  refine k_callWV [.int (nI j)] E hA (m_X3_isSample l D k a dy rooms tanks bests cows nf vrooms inv vsh nv ub vis rounds itk farm amount mark ways n nb thr j (by first | assumption | omega) (by first | assumption | omega)) cf_X3_isSample q_832 [] [] (ws' := (wMO k a (nI dy) rooms tanks bests cows (nI nf) vrooms inv vsh (nI nv) (kB ub) vis rounds itk farm amount mark ways (nI n) (nI nb) 0)) rfl rfl 0 rfl rfl rfl rfl ⟨by decide, by decide⟩ (Nat.le_of_ble_eq_true rfl) ⟨by decide, by decide⟩ dX3_farmOf_2 ?_
  refine k_steq (st' := [.int (kB true)]) rfl ?_
  refine k_if_eq E (tgt := 17) (by decide) dX3_farmOf_5 (fun c5 => absurd (kB_f c5) (by decide)) (fun c5 => ?_)
  have c5 := kB_t c5
  refine k_aload_n E 0 rfl rfl dX3_farmOf_8 ?_
  refine k_get E inX3 0 rfl rfl 14 (by decide) q_689 rfl rfl dX3_farmOf_9 ?_
  refine k_iload_n E 1 rfl rfl dX3_farmOf_12 ?_
  refine k_iald E (j := j) 9 0 rfl rfl rfl (by omega) (by decide) dX3_farmOf_13 ?_
  refine k_goto E (tgt := 18) (by decide) dX3_farmOf_14 ?_
  exact kw_iret E hr hlk rfl rfl (by decide) (by decide) dX3_farmOf_18
set_option maxRecDepth 100000 in
set_option maxHeartbeats 4000000 in
theorem m_X3_farmOf_i (l : Launch) (D : va_G) (k : Nat → ClassId) (a : Nat → Nat) (dy : Nat) (rooms : Nat → Int32) (tanks : Nat → Int32) (bests : Nat → Int32) (cows : Nat → Int32) (nf : Nat) (vrooms : Nat → Int32) (inv : Nat → Int32) (vsh : Nat → Int32) (nv : Nat) (ub : Bool) (vis : Nat → Int32) (rounds : Int32) (itk : Int32) (farm : Nat → Int32) (amount : Nat → Int32) (mark : Nat → Int32) (ways : Nat → Int32) (n : Nat) (nb : Nat) (thr : Int32) (fa : Int32) (hb : fa < 0 ∨ nI n ≤ fa) (hn : n ≤ 100) : mW l yX3_farmOf cX3_farmOf 2 (some .int) 2 46 0 0 D (kTy k) [.ref (a 0), .int fa] (wMO k a (nI dy) rooms tanks bests cows (nI nf) vrooms inv vsh (nI nv) (kB ub) vis rounds itk farm amount mark ways (nI n) (nI nb) thr) (some (.int (-1))) (wMO k a (nI dy) rooms tanks bests cows (nI nf) vrooms inv vsh (nI nv) (kB ub) vis rounds itk farm amount mark ways (nI n) (nI nb) 1) := by
  refine mW.of (lv' := [(0, .ref (a 0)), (1, .int fa)]) (by decide) (Nat.le_of_ble_eq_true rfl) rfl ?_
  intro p e s m args below meth c E hr hlk hm hA
  refine k_aload_n E 0 rfl rfl dX3_farmOf_0 ?_
  refine k_iload_n E 1 rfl rfl dX3_farmOf_1 ?_
  refine k_callWV [.int fa] E hA (m_X3_isSample_b l D k a dy rooms tanks bests cows nf vrooms inv vsh nv ub vis rounds itk farm amount mark ways n nb thr fa (by first | assumption | omega) (by first | assumption | omega)) cf_X3_isSample q_832 [] [] (ws' := (wMO k a (nI dy) rooms tanks bests cows (nI nf) vrooms inv vsh (nI nv) (kB ub) vis rounds itk farm amount mark ways (nI n) (nI nb) 1)) rfl rfl 0 rfl rfl rfl rfl ⟨by decide, by decide⟩ (Nat.le_of_ble_eq_true rfl) ⟨by decide, by decide⟩ dX3_farmOf_2 ?_
  refine k_steq (st' := [.int (kB false)]) rfl ?_
  refine k_if_eq E (tgt := 17) (by decide) dX3_farmOf_5 (fun c5 => ?_) (fun c5 => absurd (kB_t c5) (by decide))
  have c5 := kB_f c5
  refine k_iconst E (v := (-1)) (by decide) dX3_farmOf_17 ?_
  exact kw_iret E hr hlk rfl rfl (by decide) (by decide) dX3_farmOf_18
set_option maxRecDepth 100000 in
set_option maxHeartbeats 4000000 in
theorem m_X3_litres (l : Launch) (D : va_G) (k : Nat → ClassId) (a : Nat → Nat) (dy : Nat) (rooms : Nat → Int32) (tanks : Nat → Int32) (bests : Nat → Int32) (cows : Nat → Int32) (nf : Nat) (vrooms : Nat → Int32) (inv : Nat → Int32) (vsh : Nat → Int32) (nv : Nat) (ub : Bool) (vis : Nat → Int32) (rounds : Int32) (itk : Int32) (farm : Nat → Int32) (amount : Nat → Int32) (mark : Nat → Int32) (ways : Nat → Int32) (n : Nat) (nb : Nat) (thr : Int32) (j : Nat) (hj : j < n) (hn : n ≤ 100) : mW l yX3_litres cX3_litres 2 (some .int) 2 46 0 0 D (kTy k) [.ref (a 0), .int (nI j)] (wMO k a (nI dy) rooms tanks bests cows (nI nf) vrooms inv vsh (nI nv) (kB ub) vis rounds itk farm amount mark ways (nI n) (nI nb) thr) (some (.int (amount j))) (wMO k a (nI dy) rooms tanks bests cows (nI nf) vrooms inv vsh (nI nv) (kB ub) vis rounds itk farm amount mark ways (nI n) (nI nb) 0) := by
  refine mW.of (lv' := [(0, .ref (a 0)), (1, .int (nI j))]) (by decide) (Nat.le_of_ble_eq_true rfl) rfl ?_
  intro p e s m args below meth c E hr hlk hm hA
  refine k_aload_n E 0 rfl rfl dX3_litres_0 ?_
  refine k_iload_n E 1 rfl rfl dX3_litres_1 ?_
  refine k_callWV [.int (nI j)] E hA (m_X3_isSample l D k a dy rooms tanks bests cows nf vrooms inv vsh nv ub vis rounds itk farm amount mark ways n nb thr j (by first | assumption | omega) (by first | assumption | omega)) cf_X3_isSample q_832 [] [] (ws' := (wMO k a (nI dy) rooms tanks bests cows (nI nf) vrooms inv vsh (nI nv) (kB ub) vis rounds itk farm amount mark ways (nI n) (nI nb) 0)) rfl rfl 0 rfl rfl rfl rfl ⟨by decide, by decide⟩ (Nat.le_of_ble_eq_true rfl) ⟨by decide, by decide⟩ dX3_litres_2 ?_
  refine k_steq (st' := [.int (kB true)]) rfl ?_
  refine k_if_eq E (tgt := 17) (by decide) dX3_litres_5 (fun c5 => absurd (kB_f c5) (by decide)) (fun c5 => ?_)
  have c5 := kB_t c5
  refine k_aload_n E 0 rfl rfl dX3_litres_8 ?_
  refine k_get E inX3 0 rfl rfl 15 (by decide) q_690 rfl rfl dX3_litres_9 ?_
  refine k_iload_n E 1 rfl rfl dX3_litres_12 ?_
  refine k_iald E (j := j) 10 0 rfl rfl rfl (by omega) (by decide) dX3_litres_13 ?_
  refine k_goto E (tgt := 18) (by decide) dX3_litres_14 ?_
  exact kw_iret E hr hlk rfl rfl (by decide) (by decide) dX3_litres_18
set_option maxRecDepth 100000 in
set_option maxHeartbeats 4000000 in
theorem m_X3_litres_i (l : Launch) (D : va_G) (k : Nat → ClassId) (a : Nat → Nat) (dy : Nat) (rooms : Nat → Int32) (tanks : Nat → Int32) (bests : Nat → Int32) (cows : Nat → Int32) (nf : Nat) (vrooms : Nat → Int32) (inv : Nat → Int32) (vsh : Nat → Int32) (nv : Nat) (ub : Bool) (vis : Nat → Int32) (rounds : Int32) (itk : Int32) (farm : Nat → Int32) (amount : Nat → Int32) (mark : Nat → Int32) (ways : Nat → Int32) (n : Nat) (nb : Nat) (thr : Int32) (fa : Int32) (hb : fa < 0 ∨ nI n ≤ fa) (hn : n ≤ 100) : mW l yX3_litres cX3_litres 2 (some .int) 2 46 0 0 D (kTy k) [.ref (a 0), .int fa] (wMO k a (nI dy) rooms tanks bests cows (nI nf) vrooms inv vsh (nI nv) (kB ub) vis rounds itk farm amount mark ways (nI n) (nI nb) thr) (some (.int (-1))) (wMO k a (nI dy) rooms tanks bests cows (nI nf) vrooms inv vsh (nI nv) (kB ub) vis rounds itk farm amount mark ways (nI n) (nI nb) 1) := by
  refine mW.of (lv' := [(0, .ref (a 0)), (1, .int fa)]) (by decide) (Nat.le_of_ble_eq_true rfl) rfl ?_
  intro p e s m args below meth c E hr hlk hm hA
  refine k_aload_n E 0 rfl rfl dX3_litres_0 ?_
  refine k_iload_n E 1 rfl rfl dX3_litres_1 ?_
  refine k_callWV [.int fa] E hA (m_X3_isSample_b l D k a dy rooms tanks bests cows nf vrooms inv vsh nv ub vis rounds itk farm amount mark ways n nb thr fa (by first | assumption | omega) (by first | assumption | omega)) cf_X3_isSample q_832 [] [] (ws' := (wMO k a (nI dy) rooms tanks bests cows (nI nf) vrooms inv vsh (nI nv) (kB ub) vis rounds itk farm amount mark ways (nI n) (nI nb) 1)) rfl rfl 0 rfl rfl rfl rfl ⟨by decide, by decide⟩ (Nat.le_of_ble_eq_true rfl) ⟨by decide, by decide⟩ dX3_litres_2 ?_
  refine k_steq (st' := [.int (kB false)]) rfl ?_
  refine k_if_eq E (tgt := 17) (by decide) dX3_litres_5 (fun c5 => ?_) (fun c5 => absurd (kB_t c5) (by decide))
  have c5 := kB_f c5
  refine k_iconst E (v := (-1)) (by decide) dX3_litres_17 ?_
  exact kw_iret E hr hlk rfl rfl (by decide) (by decide) dX3_litres_18
set_option maxRecDepth 100000 in
set_option maxHeartbeats 4000000 in
theorem m_X3_gradeOf (l : Launch) (D : va_G) (k : Nat → ClassId) (a : Nat → Nat) (dy : Nat) (rooms : Nat → Int32) (tanks : Nat → Int32) (bests : Nat → Int32) (cows : Nat → Int32) (nf : Nat) (vrooms : Nat → Int32) (inv : Nat → Int32) (vsh : Nat → Int32) (nv : Nat) (ub : Bool) (vis : Nat → Int32) (rounds : Int32) (itk : Int32) (farm : Nat → Int32) (amount : Nat → Int32) (mark : Nat → Int32) (ways : Nat → Int32) (n : Nat) (nb : Nat) (thr : Int32) (j : Nat) (hj : j < n) (hn : n ≤ 100) (hz : narrow .char (.int (mark j)) = .int (mark j)) : mW l yX3_gradeOf cX3_gradeOf 2 (some .char) 2 46 0 0 D (kTy k) [.ref (a 0), .int (nI j)] (wMO k a (nI dy) rooms tanks bests cows (nI nf) vrooms inv vsh (nI nv) (kB ub) vis rounds itk farm amount mark ways (nI n) (nI nb) thr) (some (.int (mark j))) (wMO k a (nI dy) rooms tanks bests cows (nI nf) vrooms inv vsh (nI nv) (kB ub) vis rounds itk farm amount mark ways (nI n) (nI nb) 0) := by
  refine mW.of (lv' := [(0, .ref (a 0)), (1, .int (nI j))]) (by decide) (Nat.le_of_ble_eq_true rfl) rfl ?_
  intro p e s m args below meth c E hr hlk hm hA
  refine k_aload_n E 0 rfl rfl dX3_gradeOf_0 ?_
  refine k_iload_n E 1 rfl rfl dX3_gradeOf_1 ?_
  refine k_callWV [.int (nI j)] E hA (m_X3_isSample l D k a dy rooms tanks bests cows nf vrooms inv vsh nv ub vis rounds itk farm amount mark ways n nb thr j (by first | assumption | omega) (by first | assumption | omega)) cf_X3_isSample q_832 [] [] (ws' := (wMO k a (nI dy) rooms tanks bests cows (nI nf) vrooms inv vsh (nI nv) (kB ub) vis rounds itk farm amount mark ways (nI n) (nI nb) 0)) rfl rfl 0 rfl rfl rfl rfl ⟨by decide, by decide⟩ (Nat.le_of_ble_eq_true rfl) ⟨by decide, by decide⟩ dX3_gradeOf_2 ?_
  refine k_steq (st' := [.int (kB true)]) rfl ?_
  refine k_if_eq E (tgt := 17) (by decide) dX3_gradeOf_5 (fun c5 => absurd (kB_f c5) (by decide)) (fun c5 => ?_)
  have c5 := kB_t c5
  refine k_aload_n E 0 rfl rfl dX3_gradeOf_8 ?_
  refine k_get E inX3 0 rfl rfl 16 (by decide) q_691 rfl rfl dX3_gradeOf_9 ?_
  refine k_iload_n E 1 rfl rfl dX3_gradeOf_12 ?_
  refine k_cald E (j := j) 11 1 rfl rfl rfl (by omega) (by decide) dX3_gradeOf_13 ?_
  refine k_goto E (tgt := 19) (by decide) dX3_gradeOf_14 ?_
  exact kw_zret E (by assumption) hr hlk rfl rfl (by decide) (by decide) dX3_gradeOf_19
set_option maxRecDepth 100000 in
set_option maxHeartbeats 4000000 in
theorem m_X3_gradeOf_i (l : Launch) (D : va_G) (k : Nat → ClassId) (a : Nat → Nat) (dy : Nat) (rooms : Nat → Int32) (tanks : Nat → Int32) (bests : Nat → Int32) (cows : Nat → Int32) (nf : Nat) (vrooms : Nat → Int32) (inv : Nat → Int32) (vsh : Nat → Int32) (nv : Nat) (ub : Bool) (vis : Nat → Int32) (rounds : Int32) (itk : Int32) (farm : Nat → Int32) (amount : Nat → Int32) (mark : Nat → Int32) (ways : Nat → Int32) (n : Nat) (nb : Nat) (thr : Int32) (fa : Int32) (hb : fa < 0 ∨ nI n ≤ fa) (hn : n ≤ 100) : mW l yX3_gradeOf cX3_gradeOf 2 (some .char) 2 46 0 0 D (kTy k) [.ref (a 0), .int fa] (wMO k a (nI dy) rooms tanks bests cows (nI nf) vrooms inv vsh (nI nv) (kB ub) vis rounds itk farm amount mark ways (nI n) (nI nb) thr) (some (.int 32)) (wMO k a (nI dy) rooms tanks bests cows (nI nf) vrooms inv vsh (nI nv) (kB ub) vis rounds itk farm amount mark ways (nI n) (nI nb) 1) := by
  refine mW.of (lv' := [(0, .ref (a 0)), (1, .int fa)]) (by decide) (Nat.le_of_ble_eq_true rfl) rfl ?_
  intro p e s m args below meth c E hr hlk hm hA
  refine k_aload_n E 0 rfl rfl dX3_gradeOf_0 ?_
  refine k_iload_n E 1 rfl rfl dX3_gradeOf_1 ?_
  refine k_callWV [.int fa] E hA (m_X3_isSample_b l D k a dy rooms tanks bests cows nf vrooms inv vsh nv ub vis rounds itk farm amount mark ways n nb thr fa (by first | assumption | omega) (by first | assumption | omega)) cf_X3_isSample q_832 [] [] (ws' := (wMO k a (nI dy) rooms tanks bests cows (nI nf) vrooms inv vsh (nI nv) (kB ub) vis rounds itk farm amount mark ways (nI n) (nI nb) 1)) rfl rfl 0 rfl rfl rfl rfl ⟨by decide, by decide⟩ (Nat.le_of_ble_eq_true rfl) ⟨by decide, by decide⟩ dX3_gradeOf_2 ?_
  refine k_steq (st' := [.int (kB false)]) rfl ?_
  refine k_if_eq E (tgt := 17) (by decide) dX3_gradeOf_5 (fun c5 => ?_) (fun c5 => absurd (kB_t c5) (by decide))
  have c5 := kB_f c5
  refine k_bipush E (v := 32) (by decide) dX3_gradeOf_17 ?_
  exact kw_zret E rfl hr hlk rfl rfl (by decide) (by decide) dX3_gradeOf_19
set_option maxRecDepth 100000 in
set_option maxHeartbeats 4000000 in
theorem m_X3_wayOf (l : Launch) (D : va_G) (k : Nat → ClassId) (a : Nat → Nat) (dy : Nat) (rooms : Nat → Int32) (tanks : Nat → Int32) (bests : Nat → Int32) (cows : Nat → Int32) (nf : Nat) (vrooms : Nat → Int32) (inv : Nat → Int32) (vsh : Nat → Int32) (nv : Nat) (ub : Bool) (vis : Nat → Int32) (rounds : Int32) (itk : Int32) (farm : Nat → Int32) (amount : Nat → Int32) (mark : Nat → Int32) (ways : Nat → Int32) (n : Nat) (nb : Nat) (thr : Int32) (j : Nat) (hj : j < n) (hn : n ≤ 100) : mW l yX3_wayOf cX3_wayOf 2 (some .char) 2 46 0 0 D (kTy k) [.ref (a 0), .int (nI j)] (wMO k a (nI dy) rooms tanks bests cows (nI nf) vrooms inv vsh (nI nv) (kB ub) vis rounds itk farm amount mark ways (nI n) (nI nb) thr) (some (.int (wyM (ways j)))) (wMO k a (nI dy) rooms tanks bests cows (nI nf) vrooms inv vsh (nI nv) (kB ub) vis rounds itk farm amount mark ways (nI n) (nI nb) 0) := by
  refine mW.of (lv' := [(0, .ref (a 0)), (1, .int (nI j))]) (by decide) (Nat.le_of_ble_eq_true rfl) rfl ?_
  intro p e s m args below meth c E hr hlk hm hA
  refine k_aload_n E 0 rfl rfl dX3_wayOf_0 ?_
  refine k_iload_n E 1 rfl rfl dX3_wayOf_1 ?_
  refine k_callWV [.int (nI j)] E hA (m_X3_isSample l D k a dy rooms tanks bests cows nf vrooms inv vsh nv ub vis rounds itk farm amount mark ways n nb thr j (by first | assumption | omega) (by first | assumption | omega)) cf_X3_isSample q_832 [] [] (ws' := (wMO k a (nI dy) rooms tanks bests cows (nI nf) vrooms inv vsh (nI nv) (kB ub) vis rounds itk farm amount mark ways (nI n) (nI nb) 0)) rfl rfl 0 rfl rfl rfl rfl ⟨by decide, by decide⟩ (Nat.le_of_ble_eq_true rfl) ⟨by decide, by decide⟩ dX3_wayOf_2 ?_
  refine k_steq (st' := [.int (kB true)]) rfl ?_
  refine k_if_ne E (tgt := 13) (by decide) dX3_wayOf_5 (fun c5 => ?_) (fun c5 => absurd (kB_f c5) (by decide))
  have c5 := kB_t c5
  refine k_aload_n E 0 rfl rfl dX3_wayOf_13 ?_
  refine k_get E inX3 0 rfl rfl 17 (by decide) q_692 rfl rfl dX3_wayOf_14 ?_
  refine k_iload_n E 1 rfl rfl dX3_wayOf_17 ?_
  refine k_iald E (j := j) 12 0 rfl rfl rfl (by omega) (by decide) dX3_wayOf_18 ?_
  refine k_iconst E (v := (-1)) (by decide) dX3_wayOf_19 ?_
  refine k_icmp_ne E (tgt := 28) (by decide) dX3_wayOf_20 (fun c20 => ?_) (fun c20 => ?_)
  · skip
    refine k_aload_n E 0 rfl rfl dX3_wayOf_28 ?_
    refine k_get E inX3 0 rfl rfl 17 (by decide) q_692 rfl rfl dX3_wayOf_29 ?_
    refine k_iload_n E 1 rfl rfl dX3_wayOf_32 ?_
    refine k_iald E (j := j) 12 0 rfl rfl rfl (by omega) (by decide) dX3_wayOf_33 ?_
    refine k_bipush E (v := 10) (by decide) dX3_wayOf_34 ?_
    refine k_icmp_ge E (tgt := 44) (by decide) dX3_wayOf_36 (fun c36 => ?_) (fun c36 => ?_)
    · skip
      refine k_bipush E (v := 98) (by decide) dX3_wayOf_44 ?_
      exact kw_zret E rfl hr hlk (by simp [wyM, *]) rfl (by decide) (by decide) dX3_wayOf_46
    · skip
      refine k_bipush E (v := 118) (by decide) dX3_wayOf_39 ?_
      refine k_goto E (tgt := 46) (by decide) dX3_wayOf_41 ?_
      exact kw_zret E rfl hr hlk (by simp [wyM, *]) rfl (by decide) (by decide) dX3_wayOf_46
  · skip
    refine k_bipush E (v := 116) (by decide) dX3_wayOf_23 ?_
    refine k_goto E (tgt := 46) (by decide) dX3_wayOf_25 ?_
    exact kw_zret E rfl hr hlk (by simp [wyM, *]) rfl (by decide) (by decide) dX3_wayOf_46
set_option maxRecDepth 100000 in
set_option maxHeartbeats 4000000 in
theorem m_X3_wayOf_i (l : Launch) (D : va_G) (k : Nat → ClassId) (a : Nat → Nat) (dy : Nat) (rooms : Nat → Int32) (tanks : Nat → Int32) (bests : Nat → Int32) (cows : Nat → Int32) (nf : Nat) (vrooms : Nat → Int32) (inv : Nat → Int32) (vsh : Nat → Int32) (nv : Nat) (ub : Bool) (vis : Nat → Int32) (rounds : Int32) (itk : Int32) (farm : Nat → Int32) (amount : Nat → Int32) (mark : Nat → Int32) (ways : Nat → Int32) (n : Nat) (nb : Nat) (thr : Int32) (fa : Int32) (hb : fa < 0 ∨ nI n ≤ fa) (hn : n ≤ 100) : mW l yX3_wayOf cX3_wayOf 2 (some .char) 2 46 0 0 D (kTy k) [.ref (a 0), .int fa] (wMO k a (nI dy) rooms tanks bests cows (nI nf) vrooms inv vsh (nI nv) (kB ub) vis rounds itk farm amount mark ways (nI n) (nI nb) thr) (some (.int 32)) (wMO k a (nI dy) rooms tanks bests cows (nI nf) vrooms inv vsh (nI nv) (kB ub) vis rounds itk farm amount mark ways (nI n) (nI nb) 1) := by
  refine mW.of (lv' := [(0, .ref (a 0)), (1, .int fa)]) (by decide) (Nat.le_of_ble_eq_true rfl) rfl ?_
  intro p e s m args below meth c E hr hlk hm hA
  refine k_aload_n E 0 rfl rfl dX3_wayOf_0 ?_
  refine k_iload_n E 1 rfl rfl dX3_wayOf_1 ?_
  refine k_callWV [.int fa] E hA (m_X3_isSample_b l D k a dy rooms tanks bests cows nf vrooms inv vsh nv ub vis rounds itk farm amount mark ways n nb thr fa (by first | assumption | omega) (by first | assumption | omega)) cf_X3_isSample q_832 [] [] (ws' := (wMO k a (nI dy) rooms tanks bests cows (nI nf) vrooms inv vsh (nI nv) (kB ub) vis rounds itk farm amount mark ways (nI n) (nI nb) 1)) rfl rfl 0 rfl rfl rfl rfl ⟨by decide, by decide⟩ (Nat.le_of_ble_eq_true rfl) ⟨by decide, by decide⟩ dX3_wayOf_2 ?_
  refine k_steq (st' := [.int (kB false)]) rfl ?_
  refine k_if_ne E (tgt := 13) (by decide) dX3_wayOf_5 (fun c5 => absurd (kB_t c5) (by decide)) (fun c5 => ?_)
  have c5 := kB_f c5
  refine k_bipush E (v := 32) (by decide) dX3_wayOf_8 ?_
  refine k_goto E (tgt := 46) (by decide) dX3_wayOf_10 ?_
  exact kw_zret E rfl hr hlk rfl rfl (by decide) (by decide) dX3_wayOf_46
set_option maxRecDepth 100000 in
set_option maxHeartbeats 4000000 in
theorem m_X3_grade (l : Launch) (D : va_G) (k : Nat → ClassId) (a : Nat → Nat) (dy : Nat) (rooms : Nat → Int32) (tanks : Nat → Int32) (bests : Nat → Int32) (cows : Nat → Int32) (nf : Nat) (vrooms : Nat → Int32) (inv : Nat → Int32) (vsh : Nat → Int32) (nv : Nat) (ub : Bool) (vis : Nat → Int32) (rounds : Int32) (itk : Int32) (farm : Nat → Int32) (amount : Nat → Int32) (mark : Nat → Int32) (ways : Nat → Int32) (n : Nat) (nb : Nat) (thr : Int32) (j : Nat) (g : Int32) (hj : j < n) (hn : n ≤ 100) (hg : g = 97 ∨ g = 98 ∨ g = 99 ∨ g = 120) (hnar : vp_nar .char g = g) (hm0 : mark j = 45) : mW l yX3_grade cX3_grade 6 (some .int) 1 25 0 0 D (kTy k) [.ref (a 0), .int (nI j), .int g] (wMO k a (nI dy) rooms tanks bests cows (nI nf) vrooms inv vsh (nI nv) (kB ub) vis rounds itk farm amount mark ways (nI n) (nI nb) thr) (some (.int (sI (fun zi => decide ((upd mark j g) zi = 45)) (fun _ => 1) n))) (wMO k a (nI dy) rooms tanks bests cows (nI nf) vrooms inv vsh (nI nv) (kB ub) vis rounds itk farm amount (upd mark j g) ways (nI n) (nI nb) 0) := by
  refine mW.of (lv' := [(0, .ref (a 0)), (1, .int (nI j)), (2, .int g)]) (by decide) (Nat.le_of_ble_eq_true rfl) rfl ?_
  intro p e s m args below meth c E hr hlk hm hA
  have L29 : kJ p l e (kRmc 1 25 0 0) s m args below meth c (gW D (va_A (wMO k a (nI dy) rooms tanks bests cows (nI nf) vrooms inv vsh (nI nv) (kB ub) vis rounds itk farm amount mark ways (nI n) (nI nb) thr) s.heap.size) s.heap) 6 0 0 (MQ below (kQw (some (.int (sI (fun zi => decide ((upd mark j g) zi = 45)) (fun _ => 1) n))) D (wMO k a (nI dy) rooms tanks bests cows (nI nf) vrooms inv vsh (nI nv) (kB ub) vis rounds itk farm amount mark ways (nI n) (nI nb) thr) (wMO k a (nI dy) rooms tanks bests cows (nI nf) vrooms inv vsh (nI nv) (kB ub) vis rounds itk farm amount (upd mark j g) ways (nI n) (nI nb) 0) s.heap.size) args s 0 0 (va_A (wMO k a (nI dy) rooms tanks bests cows (nI nf) vrooms inv vsh (nI nv) (kB ub) vis rounds itk farm amount mark ways (nI n) (nI nb) thr) s.heap.size)) (wMO k a (nI dy) rooms tanks bests cows (nI nf) vrooms inv vsh (nI nv) (kB ub) vis rounds itk farm amount mark ways (nI n) (nI nb) thr) 29 [(0, .ref (a 0)), (1, .int (nI j)), (2, .int g)] [.int 1] := by
    refine k_istore_n (lv' := [(3, .int 1), (0, .ref (a 0)), (1, .int (nI j)), (2, .int g)]) E rfl (by decide) rfl dX3_grade_29 ?_
    refine k_aload_n E 1 rfl rfl dX3_grade_30 ?_
    refine k_iload_n E 2 rfl rfl dX3_grade_31 ?_
    refine k_i2l E (v := (nI j).toInt64) rfl dX3_grade_32 ?_
    refine k_lconst E (v := 0) (by decide) dX3_grade_33 ?_
    refine k_aload_n E 1 rfl rfl dX3_grade_34 ?_
    refine k_get E inX3 0 rfl rfl 18 (by decide) q_693 rfl rfl dX3_grade_35 ?_
    refine k_iconst E (v := 1) (by decide) dX3_grade_38 ?_
    refine k_isub E dX3_grade_39 ?_
    refine k_i2l E (v := ((nI n) - 1).toInt64) rfl dX3_grade_40 ?_
    refine k_callRS [.long ((nI j).toInt64), .long 0, .long (((nI n) - 1).toInt64)] E (m_X3_in l D k ((nI j).toInt64) 0 (((nI n) - 1).toInt64)) cf_X3_in q_749 [] rfl rfl rfl ⟨by decide, by decide⟩ (Nat.le_of_ble_eq_true rfl) ⟨by decide, by decide⟩ dX3_grade_41 ?_
    refine k_steq (st' := [.int (kB (inL ((nI j).toInt64) 0 (((nI n) - 1).toInt64))), .ref (a 0)]) rfl ?_
    refine k_if_ne E (tgt := 51) (by decide) dX3_grade_44 (fun c44 => ?_) (fun c44 => absurd (kB_f c44) (by first | (rw [isR_t hj (by omega)]; decide) | (rw [show inL _ _ _ = true from isR_t hj (by omega)]; decide)))
    have c44 := kB_t c44
    refine k_iload_n E 0 rfl rfl dX3_grade_51 ?_
    refine k_if_ne E (tgt := 59) (by decide) dX3_grade_52 (fun _ => ?_) (fun h => absurd h (by decide))
    refine k_aload_n E 1 rfl rfl dX3_grade_59 ?_
    refine k_get E inX3 0 rfl rfl 16 (by decide) q_691 rfl rfl dX3_grade_60 ?_
    refine k_iload_n E 2 rfl rfl dX3_grade_63 ?_
    refine k_cald E (j := j) 11 1 rfl rfl rfl (by omega) (by decide) dX3_grade_64 ?_
    refine k_bipush E (v := 45) (by decide) dX3_grade_65 ?_
    refine k_icmp_eq E (tgt := 74) (by decide) dX3_grade_67 (fun c67 => ?_) (fun c67 => absurd c67 (not_not_intro hm0))
    refine k_iconst E (v := 0) (by decide) dX3_grade_74 ?_
    refine k_put (ws' := (wMO k a (nI dy) rooms tanks bests cows (nI nf) vrooms inv vsh (nI nv) (kB ub) vis rounds itk farm amount mark ways (nI n) (nI nb) 0)) E inX3 tyX3 tyX3_ok nmX3 0 rfl rfl 20 (by decide) q_695 rfl rfl rfl rfl (Nat.le_of_ble_eq_true rfl) rfl dX3_grade_75 ?_
    refine k_aload_n E 1 rfl rfl dX3_grade_78 ?_
    refine k_get E inX3 0 rfl rfl 20 (by decide) q_695 rfl rfl dX3_grade_79 ?_
    refine k_if_le E (tgt := 87) (by decide) dX3_grade_82 (fun _ => ?_) (fun h => absurd (by decide) h)
    refine k_aload_n E 1 rfl rfl dX3_grade_87 ?_
    refine k_get E inX3 0 rfl rfl 16 (by decide) q_691 rfl rfl dX3_grade_88 ?_
    refine k_iload_n E 2 rfl rfl dX3_grade_91 ?_
    refine k_iload_n E 3 rfl rfl dX3_grade_92 ?_
    refine k_cast (y := g) (j := j) (ws' := (wMO k a (nI dy) rooms tanks bests cows (nI nf) vrooms inv vsh (nI nv) (kB ub) vis rounds itk farm amount (upd mark j g) ways (nI n) (nI nb) 0)) E 11 1 rfl rfl rfl (by omega) (by decide) hnar rfl dX3_grade_93 ?_
    refine k_iconst E (v := 0) (by decide) dX3_grade_94 ?_
    refine k_istore (lv' := [(4, .int 0), (3, .int 1), (0, .ref (a 0)), (1, .int (nI j)), (2, .int g)]) E (by decide) rfl dX3_grade_95 ?_
    refine k_iconst E (v := 0) (by decide) dX3_grade_97 ?_
    refine k_istore (lv' := [(5, .int 0), (4, .int 0), (3, .int 1), (0, .ref (a 0)), (1, .int (nI j)), (2, .int g)]) E (by decide) rfl dX3_grade_98 ?_
    have L100 : ∀ (dn100 : Nat) (i : Nat) (x : Int32), i + dn100 = n → (x = sI (fun zi => decide ((upd mark j g) zi = 45)) (fun _ => 1) i) → kJ p l e (kRmc 1 25 0 0) s m args below meth c (gW D (va_A (wMO k a (nI dy) rooms tanks bests cows (nI nf) vrooms inv vsh (nI nv) (kB ub) vis rounds itk farm amount mark ways (nI n) (nI nb) thr) s.heap.size) s.heap) 6 0 0 (MQ below (kQw (some (.int (sI (fun zi => decide ((upd mark j g) zi = 45)) (fun _ => 1) n))) D (wMO k a (nI dy) rooms tanks bests cows (nI nf) vrooms inv vsh (nI nv) (kB ub) vis rounds itk farm amount mark ways (nI n) (nI nb) thr) (wMO k a (nI dy) rooms tanks bests cows (nI nf) vrooms inv vsh (nI nv) (kB ub) vis rounds itk farm amount (upd mark j g) ways (nI n) (nI nb) 0) s.heap.size) args s 0 0 (va_A (wMO k a (nI dy) rooms tanks bests cows (nI nf) vrooms inv vsh (nI nv) (kB ub) vis rounds itk farm amount mark ways (nI n) (nI nb) thr) s.heap.size)) (wMO k a (nI dy) rooms tanks bests cows (nI nf) vrooms inv vsh (nI nv) (kB ub) vis rounds itk farm amount (upd mark j g) ways (nI n) (nI nb) 0) 100 [(0, .ref (a 0)), (4, .int x), (5, .int (nI i))] [] := by
      intro dn100
      induction dn100 with
      | zero =>
        intro i x hd100 hx
        refine k_iload E 2 rfl dX3_grade_100 ?_
        refine k_aload_n E 0 rfl rfl dX3_grade_102 ?_
        refine k_get E inX3 0 rfl rfl 18 (by decide) q_693 rfl rfl dX3_grade_103 ?_
        refine k_icmp_ge E (tgt := 137) (by decide) dX3_grade_106 (fun c106 => ?_) (fun c106 => absurd ((not_congr (nI_leI (a := n) (b := i) (by omega) (by omega))).mp c106) (by omega))
        have c106 := (nI_leI (a := n) (b := i) (by omega) (by omega)).mp c106
        refine k_iload E 1 rfl dX3_grade_137 ?_
        exact kw_iret E hr hlk (by rw [hx, show i = n by omega]) rfl (by decide) (by decide) dX3_grade_139
      | succ dn100 ih100 =>
        intro i x hd100 hx
        refine k_iload E 2 rfl dX3_grade_100 ?_
        refine k_aload_n E 0 rfl rfl dX3_grade_102 ?_
        refine k_get E inX3 0 rfl rfl 18 (by decide) q_693 rfl rfl dX3_grade_103 ?_
        refine k_icmp_ge E (tgt := 137) (by decide) dX3_grade_106 (fun c106 => absurd ((nI_leI (a := n) (b := i) (by omega) (by omega)).mp c106) (by omega)) (fun c106 => ?_)
        have c106 := (not_congr (nI_leI (a := n) (b := i) (by omega) (by omega))).mp c106
        refine k_iload E 1 rfl dX3_grade_109 ?_
        refine k_aload_n E 0 rfl rfl dX3_grade_111 ?_
        refine k_get E inX3 0 rfl rfl 16 (by decide) q_691 rfl rfl dX3_grade_112 ?_
        refine k_iload E 2 rfl dX3_grade_115 ?_
        refine k_cald E (j := i) 11 1 rfl rfl rfl (by omega) (by decide) dX3_grade_117 ?_
        refine k_bipush E (v := 45) (by decide) dX3_grade_118 ?_
        refine k_icmp_ne E (tgt := 127) (by decide) dX3_grade_120 (fun c120 => ?_) (fun c120 => ?_)
        · skip
          refine k_iconst E (v := 0) (by decide) dX3_grade_127 ?_
          refine k_iadd E dX3_grade_128 ?_
          refine k_istore (lv' := [(4, .int (x + 0)), (0, .ref (a 0)), (5, .int (nI i))]) E (by decide) rfl dX3_grade_129 ?_
          refine k_iinc (q := 2) (v := nI (i + 1)) (lv' := [(5, .int (nI (i + 1))), (4, .int (x + 0)), (0, .ref (a 0))]) E rfl (nI_inc _) (by decide) rfl dX3_grade_131 ?_
          refine k_goto E (tgt := 100) (by decide) dX3_grade_134 ?_
          refine k_lv [2, 1, 0] rfl ?_
          exact ih100 (i + 1) (x + 0) (by omega) (by simp [sI, *])
        · skip
          refine k_iconst E (v := 1) (by decide) dX3_grade_123 ?_
          refine k_goto E (tgt := 128) (by decide) dX3_grade_124 ?_
          refine k_iadd E dX3_grade_128 ?_
          refine k_istore (lv' := [(4, .int (x + 1)), (0, .ref (a 0)), (5, .int (nI i))]) E (by decide) rfl dX3_grade_129 ?_
          refine k_iinc (q := 2) (v := nI (i + 1)) (lv' := [(5, .int (nI (i + 1))), (4, .int (x + 1)), (0, .ref (a 0))]) E rfl (nI_inc _) (by decide) rfl dX3_grade_131 ?_
          refine k_goto E (tgt := 100) (by decide) dX3_grade_134 ?_
          refine k_lv [2, 1, 0] rfl ?_
          exact ih100 (i + 1) (x + 1) (by omega) (by simp [sI, *])
    refine k_lv [3, 1, 0] rfl ?_
    exact L100 (n - 0) 0 0 (by omega) rfl
  refine k_iload_n E 2 rfl rfl dX3_grade_0 ?_
  refine k_bipush E (v := 97) (by decide) dX3_grade_1 ?_
  refine k_icmp_eq E (tgt := 24) (by decide) dX3_grade_3 (fun c3 => ?_) (fun c3 => ?_)
  · skip
    refine k_iconst E (v := 1) (by decide) dX3_grade_24 ?_
    refine k_goto E (tgt := 29) (by decide) dX3_grade_25 ?_
    refine k_lv [0, 1, 2] rfl ?_
    exact L29  
  · skip
    refine k_iload_n E 2 rfl rfl dX3_grade_6 ?_
    refine k_bipush E (v := 98) (by decide) dX3_grade_7 ?_
    refine k_icmp_eq E (tgt := 24) (by decide) dX3_grade_9 (fun c9 => ?_) (fun c9 => ?_)
    · skip
      refine k_iconst E (v := 1) (by decide) dX3_grade_24 ?_
      refine k_goto E (tgt := 29) (by decide) dX3_grade_25 ?_
      refine k_lv [0, 1, 2] rfl ?_
      exact L29  
    · skip
      refine k_iload_n E 2 rfl rfl dX3_grade_12 ?_
      refine k_bipush E (v := 99) (by decide) dX3_grade_13 ?_
      refine k_icmp_eq E (tgt := 24) (by decide) dX3_grade_15 (fun c15 => ?_) (fun c15 => ?_)
      · skip
        refine k_iconst E (v := 1) (by decide) dX3_grade_24 ?_
        refine k_goto E (tgt := 29) (by decide) dX3_grade_25 ?_
        refine k_lv [0, 1, 2] rfl ?_
        exact L29  
      · skip
        refine k_iload_n E 2 rfl rfl dX3_grade_18 ?_
        refine k_bipush E (v := 120) (by decide) dX3_grade_19 ?_
        refine k_icmp_ne E (tgt := 28) (by decide) dX3_grade_21 (fun c21 => absurd c21 (fun q => by rcases hg with w | w | w | w <;> first | exact c3 w | exact c9 w | exact c15 w | exact q w)) (fun c21 => ?_)
        refine k_iconst E (v := 1) (by decide) dX3_grade_24 ?_
        refine k_goto E (tgt := 29) (by decide) dX3_grade_25 ?_
        refine k_lv [0, 1, 2] rfl ?_
        exact L29  
set_option maxRecDepth 100000 in
set_option maxHeartbeats 4000000 in
theorem m_X3_grade_i (l : Launch) (D : va_G) (k : Nat → ClassId) (a : Nat → Nat) (dy : Nat) (rooms : Nat → Int32) (tanks : Nat → Int32) (bests : Nat → Int32) (cows : Nat → Int32) (nf : Nat) (vrooms : Nat → Int32) (inv : Nat → Int32) (vsh : Nat → Int32) (nv : Nat) (ub : Bool) (vis : Nat → Int32) (rounds : Int32) (itk : Int32) (farm : Nat → Int32) (amount : Nat → Int32) (mark : Nat → Int32) (ways : Nat → Int32) (n : Nat) (nb : Nat) (thr : Int32) (fa : Int32) (g : Int32) (hb : fa < 0 ∨ nI n ≤ fa) (hn : n ≤ 100) : mW l yX3_grade cX3_grade 6 (some .int) 1 25 0 0 D (kTy k) [.ref (a 0), .int fa, .int g] (wMO k a (nI dy) rooms tanks bests cows (nI nf) vrooms inv vsh (nI nv) (kB ub) vis rounds itk farm amount mark ways (nI n) (nI nb) thr) (some (.int (-1))) (wMO k a (nI dy) rooms tanks bests cows (nI nf) vrooms inv vsh (nI nv) (kB ub) vis rounds itk farm amount mark ways (nI n) (nI nb) 1) := by
  refine mW.of (lv' := [(0, .ref (a 0)), (1, .int fa), (2, .int g)]) (by decide) (Nat.le_of_ble_eq_true rfl) rfl ?_
  intro p e s m args below meth c E hr hlk hm hA
  have L30 : ∀ (bb : Bool), kJ p l e (kRmc 1 25 0 0) s m args below meth c (gW D (va_A (wMO k a (nI dy) rooms tanks bests cows (nI nf) vrooms inv vsh (nI nv) (kB ub) vis rounds itk farm amount mark ways (nI n) (nI nb) thr) s.heap.size) s.heap) 6 0 0 (MQ below (kQw (some (.int (-1))) D (wMO k a (nI dy) rooms tanks bests cows (nI nf) vrooms inv vsh (nI nv) (kB ub) vis rounds itk farm amount mark ways (nI n) (nI nb) thr) (wMO k a (nI dy) rooms tanks bests cows (nI nf) vrooms inv vsh (nI nv) (kB ub) vis rounds itk farm amount mark ways (nI n) (nI nb) 1) s.heap.size) args s 0 0 (va_A (wMO k a (nI dy) rooms tanks bests cows (nI nf) vrooms inv vsh (nI nv) (kB ub) vis rounds itk farm amount mark ways (nI n) (nI nb) thr) s.heap.size)) (wMO k a (nI dy) rooms tanks bests cows (nI nf) vrooms inv vsh (nI nv) (kB ub) vis rounds itk farm amount mark ways (nI n) (nI nb) thr) 30 [(0, .ref (a 0)), (1, .int fa), (2, .int g), (3, .int (kB bb))] [] := by
    intro bb
    refine k_aload_n E 0 rfl rfl dX3_grade_30 ?_
    refine k_iload_n E 1 rfl rfl dX3_grade_31 ?_
    refine k_i2l E (v := fa.toInt64) rfl dX3_grade_32 ?_
    refine k_lconst E (v := 0) (by decide) dX3_grade_33 ?_
    refine k_aload_n E 0 rfl rfl dX3_grade_34 ?_
    refine k_get E inX3 0 rfl rfl 18 (by decide) q_693 rfl rfl dX3_grade_35 ?_
    refine k_iconst E (v := 1) (by decide) dX3_grade_38 ?_
    refine k_isub E dX3_grade_39 ?_
    refine k_i2l E (v := ((nI n) - 1).toInt64) rfl dX3_grade_40 ?_
    refine k_callRS [.long fa.toInt64, .long 0, .long (((nI n) - 1).toInt64)] E (m_X3_in l D k fa.toInt64 0 (((nI n) - 1).toInt64)) cf_X3_in q_749 [] rfl rfl rfl ⟨by decide, by decide⟩ (Nat.le_of_ble_eq_true rfl) ⟨by decide, by decide⟩ dX3_grade_41 ?_
    refine k_steq (st' := [.int (kB (inL fa.toInt64 0 (((nI n) - 1).toInt64))), .ref (a 0)]) rfl ?_
    refine k_if_ne E (tgt := 51) (by decide) dX3_grade_44 (fun c44 => absurd (kB_t c44) (by first | (rw [isR_f hb (by omega)]; decide) | (rw [show inL _ _ _ = false from isR_f hb (by omega)]; decide))) (fun c44 => ?_)
    have c44 := kB_f c44
    refine k_iconst E (v := 1) (by decide) dX3_grade_47 ?_
    refine k_goto E (tgt := 75) (by decide) dX3_grade_48 ?_
    refine k_put (ws' := (wMO k a (nI dy) rooms tanks bests cows (nI nf) vrooms inv vsh (nI nv) (kB ub) vis rounds itk farm amount mark ways (nI n) (nI nb) 1)) E inX3 tyX3 tyX3_ok nmX3 0 rfl rfl 20 (by decide) q_695 rfl rfl rfl rfl (Nat.le_of_ble_eq_true rfl) rfl dX3_grade_75 ?_
    refine k_aload_n E 0 rfl rfl dX3_grade_78 ?_
    refine k_get E inX3 0 rfl rfl 20 (by decide) q_695 rfl rfl dX3_grade_79 ?_
    refine k_if_le E (tgt := 87) (by decide) dX3_grade_82 (fun h => absurd h (by decide)) (fun _ => ?_)
    refine k_iconst E (v := (-1)) (by decide) dX3_grade_85 ?_
    exact kw_iret E hr hlk rfl rfl (by decide) (by decide) dX3_grade_86
  refine k_iload_n E 2 rfl rfl dX3_grade_0 ?_
  refine k_bipush E (v := 97) (by decide) dX3_grade_1 ?_
  refine k_icmp_eq E (tgt := 24) (by decide) dX3_grade_3 (fun c3 => ?_) (fun c3 => ?_)
  · skip
    refine k_iconst E (v := 1) (by decide) dX3_grade_24 ?_
    refine k_goto E (tgt := 29) (by decide) dX3_grade_25 ?_
    refine k_istore_n (lv' := [(3, .int 1), (0, .ref (a 0)), (1, .int fa), (2, .int g)]) E rfl (by decide) rfl dX3_grade_29 ?_
    refine k_lv [1, 2, 3, 0] rfl ?_
    exact L30 true 
  · skip
    refine k_iload_n E 2 rfl rfl dX3_grade_6 ?_
    refine k_bipush E (v := 98) (by decide) dX3_grade_7 ?_
    refine k_icmp_eq E (tgt := 24) (by decide) dX3_grade_9 (fun c9 => ?_) (fun c9 => ?_)
    · skip
      refine k_iconst E (v := 1) (by decide) dX3_grade_24 ?_
      refine k_goto E (tgt := 29) (by decide) dX3_grade_25 ?_
      refine k_istore_n (lv' := [(3, .int 1), (0, .ref (a 0)), (1, .int fa), (2, .int g)]) E rfl (by decide) rfl dX3_grade_29 ?_
      refine k_lv [1, 2, 3, 0] rfl ?_
      exact L30 true 
    · skip
      refine k_iload_n E 2 rfl rfl dX3_grade_12 ?_
      refine k_bipush E (v := 99) (by decide) dX3_grade_13 ?_
      refine k_icmp_eq E (tgt := 24) (by decide) dX3_grade_15 (fun c15 => ?_) (fun c15 => ?_)
      · skip
        refine k_iconst E (v := 1) (by decide) dX3_grade_24 ?_
        refine k_goto E (tgt := 29) (by decide) dX3_grade_25 ?_
        refine k_istore_n (lv' := [(3, .int 1), (0, .ref (a 0)), (1, .int fa), (2, .int g)]) E rfl (by decide) rfl dX3_grade_29 ?_
        refine k_lv [1, 2, 3, 0] rfl ?_
        exact L30 true 
      · skip
        refine k_iload_n E 2 rfl rfl dX3_grade_18 ?_
        refine k_bipush E (v := 120) (by decide) dX3_grade_19 ?_
        refine k_icmp_ne E (tgt := 28) (by decide) dX3_grade_21 (fun c21 => ?_) (fun c21 => ?_)
        · skip
          refine k_iconst E (v := 0) (by decide) dX3_grade_28 ?_
          refine k_istore_n (lv' := [(3, .int 0), (0, .ref (a 0)), (1, .int fa), (2, .int g)]) E rfl (by decide) rfl dX3_grade_29 ?_
          refine k_lv [1, 2, 3, 0] rfl ?_
          exact L30 false 
        · skip
          refine k_iconst E (v := 1) (by decide) dX3_grade_24 ?_
          refine k_goto E (tgt := 29) (by decide) dX3_grade_25 ?_
          refine k_istore_n (lv' := [(3, .int 1), (0, .ref (a 0)), (1, .int fa), (2, .int g)]) E rfl (by decide) rfl dX3_grade_29 ?_
          refine k_lv [1, 2, 3, 0] rfl ?_
          exact L30 true 
set_option maxRecDepth 100000 in
set_option maxHeartbeats 4000000 in
theorem m_X3_grade_a (l : Launch) (D : va_G) (k : Nat → ClassId) (a : Nat → Nat) (dy : Nat) (rooms : Nat → Int32) (tanks : Nat → Int32) (bests : Nat → Int32) (cows : Nat → Int32) (nf : Nat) (vrooms : Nat → Int32) (inv : Nat → Int32) (vsh : Nat → Int32) (nv : Nat) (ub : Bool) (vis : Nat → Int32) (rounds : Int32) (itk : Int32) (farm : Nat → Int32) (amount : Nat → Int32) (mark : Nat → Int32) (ways : Nat → Int32) (n : Nat) (nb : Nat) (thr : Int32) (j : Nat) (g : Int32) (hj : j < n) (hn : n ≤ 100) (h1 : ¬ g = 97) (h2 : ¬ g = 98) (h3 : ¬ g = 99) (h4 : ¬ g = 120) : mW l yX3_grade cX3_grade 6 (some .int) 1 25 0 0 D (kTy k) [.ref (a 0), .int (nI j), .int g] (wMO k a (nI dy) rooms tanks bests cows (nI nf) vrooms inv vsh (nI nv) (kB ub) vis rounds itk farm amount mark ways (nI n) (nI nb) thr) (some (.int (-1))) (wMO k a (nI dy) rooms tanks bests cows (nI nf) vrooms inv vsh (nI nv) (kB ub) vis rounds itk farm amount mark ways (nI n) (nI nb) 2) := by
  refine mW.of (lv' := [(0, .ref (a 0)), (1, .int (nI j)), (2, .int g)]) (by decide) (Nat.le_of_ble_eq_true rfl) rfl ?_
  intro p e s m args below meth c E hr hlk hm hA
  refine k_iload_n E 2 rfl rfl dX3_grade_0 ?_
  refine k_bipush E (v := 97) (by decide) dX3_grade_1 ?_
  refine k_icmp_eq E (tgt := 24) (by decide) dX3_grade_3 (fun c3 => absurd c3 h1) (fun c3 => ?_)
  refine k_iload_n E 2 rfl rfl dX3_grade_6 ?_
  refine k_bipush E (v := 98) (by decide) dX3_grade_7 ?_
  refine k_icmp_eq E (tgt := 24) (by decide) dX3_grade_9 (fun c9 => absurd c9 h2) (fun c9 => ?_)
  refine k_iload_n E 2 rfl rfl dX3_grade_12 ?_
  refine k_bipush E (v := 99) (by decide) dX3_grade_13 ?_
  refine k_icmp_eq E (tgt := 24) (by decide) dX3_grade_15 (fun c15 => absurd c15 h3) (fun c15 => ?_)
  refine k_iload_n E 2 rfl rfl dX3_grade_18 ?_
  refine k_bipush E (v := 120) (by decide) dX3_grade_19 ?_
  refine k_icmp_ne E (tgt := 28) (by decide) dX3_grade_21 (fun c21 => ?_) (fun c21 => absurd c21 h4)
  refine k_iconst E (v := 0) (by decide) dX3_grade_28 ?_
  refine k_istore_n (lv' := [(3, .int 0), (0, .ref (a 0)), (1, .int (nI j)), (2, .int g)]) E rfl (by decide) rfl dX3_grade_29 ?_
  refine k_aload_n E 1 rfl rfl dX3_grade_30 ?_
  refine k_iload_n E 2 rfl rfl dX3_grade_31 ?_
  refine k_i2l E (v := (nI j).toInt64) rfl dX3_grade_32 ?_
  refine k_lconst E (v := 0) (by decide) dX3_grade_33 ?_
  refine k_aload_n E 1 rfl rfl dX3_grade_34 ?_
  refine k_get E inX3 0 rfl rfl 18 (by decide) q_693 rfl rfl dX3_grade_35 ?_
  refine k_iconst E (v := 1) (by decide) dX3_grade_38 ?_
  refine k_isub E dX3_grade_39 ?_
  refine k_i2l E (v := ((nI n) - 1).toInt64) rfl dX3_grade_40 ?_
  refine k_callRS [.long ((nI j).toInt64), .long 0, .long (((nI n) - 1).toInt64)] E (m_X3_in l D k ((nI j).toInt64) 0 (((nI n) - 1).toInt64)) cf_X3_in q_749 [] rfl rfl rfl ⟨by decide, by decide⟩ (Nat.le_of_ble_eq_true rfl) ⟨by decide, by decide⟩ dX3_grade_41 ?_
  refine k_steq (st' := [.int (kB (inL ((nI j).toInt64) 0 (((nI n) - 1).toInt64))), .ref (a 0)]) rfl ?_
  refine k_if_ne E (tgt := 51) (by decide) dX3_grade_44 (fun c44 => ?_) (fun c44 => absurd (kB_f c44) (by first | (rw [isR_t hj (by omega)]; decide) | (rw [show inL _ _ _ = true from isR_t hj (by omega)]; decide)))
  have c44 := kB_t c44
  refine k_iload_n E 0 rfl rfl dX3_grade_51 ?_
  refine k_if_ne E (tgt := 59) (by decide) dX3_grade_52 (fun h => absurd (by decide) h) (fun _ => ?_)
  refine k_iconst E (v := 2) (by decide) dX3_grade_55 ?_
  refine k_goto E (tgt := 75) (by decide) dX3_grade_56 ?_
  refine k_put (ws' := (wMO k a (nI dy) rooms tanks bests cows (nI nf) vrooms inv vsh (nI nv) (kB ub) vis rounds itk farm amount mark ways (nI n) (nI nb) 2)) E inX3 tyX3 tyX3_ok nmX3 0 rfl rfl 20 (by decide) q_695 rfl rfl rfl rfl (Nat.le_of_ble_eq_true rfl) rfl dX3_grade_75 ?_
  refine k_aload_n E 1 rfl rfl dX3_grade_78 ?_
  refine k_get E inX3 0 rfl rfl 20 (by decide) q_695 rfl rfl dX3_grade_79 ?_
  refine k_if_le E (tgt := 87) (by decide) dX3_grade_82 (fun h => absurd h (by decide)) (fun _ => ?_)
  refine k_iconst E (v := (-1)) (by decide) dX3_grade_85 ?_
  exact kw_iret E hr hlk rfl rfl (by decide) (by decide) dX3_grade_86
set_option maxRecDepth 100000 in
set_option maxHeartbeats 4000000 in
theorem m_X3_grade_s (l : Launch) (D : va_G) (k : Nat → ClassId) (a : Nat → Nat) (dy : Nat) (rooms : Nat → Int32) (tanks : Nat → Int32) (bests : Nat → Int32) (cows : Nat → Int32) (nf : Nat) (vrooms : Nat → Int32) (inv : Nat → Int32) (vsh : Nat → Int32) (nv : Nat) (ub : Bool) (vis : Nat → Int32) (rounds : Int32) (itk : Int32) (farm : Nat → Int32) (amount : Nat → Int32) (mark : Nat → Int32) (ways : Nat → Int32) (n : Nat) (nb : Nat) (thr : Int32) (j : Nat) (g : Int32) (hj : j < n) (hn : n ≤ 100) (hg : g = 97 ∨ g = 98 ∨ g = 99 ∨ g = 120) (hm0 : ¬ mark j = 45) : mW l yX3_grade cX3_grade 6 (some .int) 1 25 0 0 D (kTy k) [.ref (a 0), .int (nI j), .int g] (wMO k a (nI dy) rooms tanks bests cows (nI nf) vrooms inv vsh (nI nv) (kB ub) vis rounds itk farm amount mark ways (nI n) (nI nb) thr) (some (.int (-1))) (wMO k a (nI dy) rooms tanks bests cows (nI nf) vrooms inv vsh (nI nv) (kB ub) vis rounds itk farm amount mark ways (nI n) (nI nb) 3) := by
  refine mW.of (lv' := [(0, .ref (a 0)), (1, .int (nI j)), (2, .int g)]) (by decide) (Nat.le_of_ble_eq_true rfl) rfl ?_
  intro p e s m args below meth c E hr hlk hm hA
  have L29 : kJ p l e (kRmc 1 25 0 0) s m args below meth c (gW D (va_A (wMO k a (nI dy) rooms tanks bests cows (nI nf) vrooms inv vsh (nI nv) (kB ub) vis rounds itk farm amount mark ways (nI n) (nI nb) thr) s.heap.size) s.heap) 6 0 0 (MQ below (kQw (some (.int (-1))) D (wMO k a (nI dy) rooms tanks bests cows (nI nf) vrooms inv vsh (nI nv) (kB ub) vis rounds itk farm amount mark ways (nI n) (nI nb) thr) (wMO k a (nI dy) rooms tanks bests cows (nI nf) vrooms inv vsh (nI nv) (kB ub) vis rounds itk farm amount mark ways (nI n) (nI nb) 3) s.heap.size) args s 0 0 (va_A (wMO k a (nI dy) rooms tanks bests cows (nI nf) vrooms inv vsh (nI nv) (kB ub) vis rounds itk farm amount mark ways (nI n) (nI nb) thr) s.heap.size)) (wMO k a (nI dy) rooms tanks bests cows (nI nf) vrooms inv vsh (nI nv) (kB ub) vis rounds itk farm amount mark ways (nI n) (nI nb) thr) 29 [(0, .ref (a 0)), (1, .int (nI j)), (2, .int g)] [.int 1] := by
    refine k_istore_n (lv' := [(3, .int 1), (0, .ref (a 0)), (1, .int (nI j)), (2, .int g)]) E rfl (by decide) rfl dX3_grade_29 ?_
    refine k_aload_n E 1 rfl rfl dX3_grade_30 ?_
    refine k_iload_n E 2 rfl rfl dX3_grade_31 ?_
    refine k_i2l E (v := (nI j).toInt64) rfl dX3_grade_32 ?_
    refine k_lconst E (v := 0) (by decide) dX3_grade_33 ?_
    refine k_aload_n E 1 rfl rfl dX3_grade_34 ?_
    refine k_get E inX3 0 rfl rfl 18 (by decide) q_693 rfl rfl dX3_grade_35 ?_
    refine k_iconst E (v := 1) (by decide) dX3_grade_38 ?_
    refine k_isub E dX3_grade_39 ?_
    refine k_i2l E (v := ((nI n) - 1).toInt64) rfl dX3_grade_40 ?_
    refine k_callRS [.long ((nI j).toInt64), .long 0, .long (((nI n) - 1).toInt64)] E (m_X3_in l D k ((nI j).toInt64) 0 (((nI n) - 1).toInt64)) cf_X3_in q_749 [] rfl rfl rfl ⟨by decide, by decide⟩ (Nat.le_of_ble_eq_true rfl) ⟨by decide, by decide⟩ dX3_grade_41 ?_
    refine k_steq (st' := [.int (kB (inL ((nI j).toInt64) 0 (((nI n) - 1).toInt64))), .ref (a 0)]) rfl ?_
    refine k_if_ne E (tgt := 51) (by decide) dX3_grade_44 (fun c44 => ?_) (fun c44 => absurd (kB_f c44) (by first | (rw [isR_t hj (by omega)]; decide) | (rw [show inL _ _ _ = true from isR_t hj (by omega)]; decide)))
    have c44 := kB_t c44
    refine k_iload_n E 0 rfl rfl dX3_grade_51 ?_
    refine k_if_ne E (tgt := 59) (by decide) dX3_grade_52 (fun _ => ?_) (fun h => absurd h (by decide))
    refine k_aload_n E 1 rfl rfl dX3_grade_59 ?_
    refine k_get E inX3 0 rfl rfl 16 (by decide) q_691 rfl rfl dX3_grade_60 ?_
    refine k_iload_n E 2 rfl rfl dX3_grade_63 ?_
    refine k_cald E (j := j) 11 1 rfl rfl rfl (by omega) (by decide) dX3_grade_64 ?_
    refine k_bipush E (v := 45) (by decide) dX3_grade_65 ?_
    refine k_icmp_eq E (tgt := 74) (by decide) dX3_grade_67 (fun c67 => absurd c67 hm0) (fun c67 => ?_)
    refine k_iconst E (v := 3) (by decide) dX3_grade_70 ?_
    refine k_goto E (tgt := 75) (by decide) dX3_grade_71 ?_
    refine k_put (ws' := (wMO k a (nI dy) rooms tanks bests cows (nI nf) vrooms inv vsh (nI nv) (kB ub) vis rounds itk farm amount mark ways (nI n) (nI nb) 3)) E inX3 tyX3 tyX3_ok nmX3 0 rfl rfl 20 (by decide) q_695 rfl rfl rfl rfl (Nat.le_of_ble_eq_true rfl) rfl dX3_grade_75 ?_
    refine k_aload_n E 1 rfl rfl dX3_grade_78 ?_
    refine k_get E inX3 0 rfl rfl 20 (by decide) q_695 rfl rfl dX3_grade_79 ?_
    refine k_if_le E (tgt := 87) (by decide) dX3_grade_82 (fun h => absurd h (by decide)) (fun _ => ?_)
    refine k_iconst E (v := (-1)) (by decide) dX3_grade_85 ?_
    exact kw_iret E hr hlk rfl rfl (by decide) (by decide) dX3_grade_86
  refine k_iload_n E 2 rfl rfl dX3_grade_0 ?_
  refine k_bipush E (v := 97) (by decide) dX3_grade_1 ?_
  refine k_icmp_eq E (tgt := 24) (by decide) dX3_grade_3 (fun c3 => ?_) (fun c3 => ?_)
  · skip
    refine k_iconst E (v := 1) (by decide) dX3_grade_24 ?_
    refine k_goto E (tgt := 29) (by decide) dX3_grade_25 ?_
    refine k_lv [0, 1, 2] rfl ?_
    exact L29  
  · skip
    refine k_iload_n E 2 rfl rfl dX3_grade_6 ?_
    refine k_bipush E (v := 98) (by decide) dX3_grade_7 ?_
    refine k_icmp_eq E (tgt := 24) (by decide) dX3_grade_9 (fun c9 => ?_) (fun c9 => ?_)
    · skip
      refine k_iconst E (v := 1) (by decide) dX3_grade_24 ?_
      refine k_goto E (tgt := 29) (by decide) dX3_grade_25 ?_
      refine k_lv [0, 1, 2] rfl ?_
      exact L29  
    · skip
      refine k_iload_n E 2 rfl rfl dX3_grade_12 ?_
      refine k_bipush E (v := 99) (by decide) dX3_grade_13 ?_
      refine k_icmp_eq E (tgt := 24) (by decide) dX3_grade_15 (fun c15 => ?_) (fun c15 => ?_)
      · skip
        refine k_iconst E (v := 1) (by decide) dX3_grade_24 ?_
        refine k_goto E (tgt := 29) (by decide) dX3_grade_25 ?_
        refine k_lv [0, 1, 2] rfl ?_
        exact L29  
      · skip
        refine k_iload_n E 2 rfl rfl dX3_grade_18 ?_
        refine k_bipush E (v := 120) (by decide) dX3_grade_19 ?_
        refine k_icmp_ne E (tgt := 28) (by decide) dX3_grade_21 (fun c21 => absurd c21 (fun q => by rcases hg with w | w | w | w <;> first | exact c3 w | exact c9 w | exact c15 w | exact q w)) (fun c21 => ?_)
        refine k_iconst E (v := 1) (by decide) dX3_grade_24 ?_
        refine k_goto E (tgt := 29) (by decide) dX3_grade_25 ?_
        refine k_lv [0, 1, 2] rfl ?_
        exact L29  
set_option maxRecDepth 100000 in
set_option maxHeartbeats 4000000 in
theorem m_X3_has (l : Launch) (D : va_G) (k : Nat → ClassId) (a : Nat → Nat) (dy : Nat) (rooms : Nat → Int32) (tanks : Nat → Int32) (bests : Nat → Int32) (cows : Nat → Int32) (nf : Nat) (vrooms : Nat → Int32) (inv : Nat → Int32) (vsh : Nat → Int32) (nv : Nat) (ub : Bool) (vis : Nat → Int32) (rounds : Int32) (itk : Int32) (farm : Nat → Int32) (amount : Nat → Int32) (mark : Nat → Int32) (ways : Nat → Int32) (n : Nat) (nb : Nat) (thr : Int32) (b : Int32) (g : Int32) (hn : n ≤ 100) : mR l yX3_has cX3_has 5 (some .boolean) 0 0 D (kTy k) [.ref (a 0), .int b, .int g] (wMO k a (nI dy) rooms tanks bests cows (nI nf) vrooms inv vsh (nI nv) (kB ub) vis rounds itk farm amount mark ways (nI n) (nI nb) thr) (some (.int (kB (hsB ways mark b g n)))) := by
  refine mR.of (lv' := [(0, .ref (a 0)), (1, .int b), (2, .int g)]) (by decide) (Nat.le_of_ble_eq_true rfl) rfl ?_
  intro p e s m args below meth c E hr hlk
  refine k_iconst E (v := 0) (by decide) dX3_has_0 ?_
  refine k_istore_n (lv' := [(3, .int 0), (0, .ref (a 0)), (1, .int b), (2, .int g)]) E rfl (by decide) rfl dX3_has_1 ?_
  refine k_iconst E (v := 0) (by decide) dX3_has_2 ?_
  refine k_istore (lv' := [(4, .int 0), (3, .int 0), (0, .ref (a 0)), (1, .int b), (2, .int g)]) E (by decide) rfl dX3_has_3 ?_
  have L5 : ∀ (dn5 : Nat) (i : Nat) (xb : Bool), i + dn5 = n → (xb = eB (fun zi => decide (ways zi = 10 + b) && decide (mark zi = g)) i) → kJ p l e (kRm 0 0) s m args below meth c (gR D s.heap) 5 0 0 (MQ below (kQr (some (.int (kB (hsB ways mark b g n))))) args s 0 0 (fun _ => False)) (wMO k a (nI dy) rooms tanks bests cows (nI nf) vrooms inv vsh (nI nv) (kB ub) vis rounds itk farm amount mark ways (nI n) (nI nb) thr) 5 [(0, .ref (a 0)), (1, .int b), (2, .int g), (3, .int (kB xb)), (4, .int (nI i))] [] := by
    intro dn5
    induction dn5 with
    | zero =>
      intro i xb hd5 hx
      refine k_iload E 4 rfl dX3_has_5 ?_
      refine k_aload_n E 0 rfl rfl dX3_has_7 ?_
      refine k_get E inX3 0 rfl rfl 18 (by decide) q_693 rfl rfl dX3_has_8 ?_
      refine k_icmp_ge E (tgt := 55) (by decide) dX3_has_11 (fun c11 => ?_) (fun c11 => absurd ((not_congr (nI_leI (a := n) (b := i) (by omega) (by omega))).mp c11) (by omega))
      have c11 := (nI_leI (a := n) (b := i) (by omega) (by omega)).mp c11
      refine k_iload_n E 3 rfl rfl dX3_has_55 ?_
      exact kr_zret E hr hlk (kB_z _) (by rw [hx, show i = n by omega]; rfl) dX3_has_56
    | succ dn5 ih5 =>
      intro i xb hd5 hx
      refine k_iload E 4 rfl dX3_has_5 ?_
      refine k_aload_n E 0 rfl rfl dX3_has_7 ?_
      refine k_get E inX3 0 rfl rfl 18 (by decide) q_693 rfl rfl dX3_has_8 ?_
      refine k_icmp_ge E (tgt := 55) (by decide) dX3_has_11 (fun c11 => absurd ((nI_leI (a := n) (b := i) (by omega) (by omega)).mp c11) (by omega)) (fun c11 => ?_)
      have c11 := (not_congr (nI_leI (a := n) (b := i) (by omega) (by omega))).mp c11
      refine k_iload_n E 3 rfl rfl dX3_has_14 ?_
      refine k_if_ne E (tgt := 43) (by decide) dX3_has_15 (fun c15 => ?_) (fun c15 => ?_)
      · skip
        have c15 := kB_t c15
        refine k_iconst E (v := 1) (by decide) dX3_has_43 ?_
        refine k_goto E (tgt := 48) (by decide) dX3_has_44 ?_
        refine k_istore_n (lv' := [(3, .int 1), (0, .ref (a 0)), (1, .int b), (2, .int g), (4, .int (nI i))]) E rfl (by decide) rfl dX3_has_48 ?_
        refine k_iinc (q := 4) (v := nI (i + 1)) (lv' := [(4, .int (nI (i + 1))), (3, .int 1), (0, .ref (a 0)), (1, .int b), (2, .int g)]) E rfl (nI_inc _) (by decide) rfl dX3_has_49 ?_
        refine k_goto E (tgt := 5) (by decide) dX3_has_52 ?_
        refine k_lv [2, 3, 4, 1, 0] rfl ?_
        exact ih5 (i + 1) true (by omega) (by rw [eB, ← hx]; clear hx; simp [*])
      · skip
        have c15 := kB_f c15
        refine k_aload_n E 0 rfl rfl dX3_has_18 ?_
        refine k_get E inX3 0 rfl rfl 17 (by decide) q_692 rfl rfl dX3_has_19 ?_
        refine k_iload E 4 rfl dX3_has_22 ?_
        refine k_iald E (j := i) 12 0 rfl rfl rfl (by omega) (by decide) dX3_has_24 ?_
        refine k_bipush E (v := 10) (by decide) dX3_has_25 ?_
        refine k_iload_n E 1 rfl rfl dX3_has_27 ?_
        refine k_iadd E dX3_has_28 ?_
        refine k_icmp_ne E (tgt := 47) (by decide) dX3_has_29 (fun c29 => ?_) (fun c29 => ?_)
        · skip
          refine k_iconst E (v := 0) (by decide) dX3_has_47 ?_
          refine k_istore_n (lv' := [(3, .int 0), (0, .ref (a 0)), (1, .int b), (2, .int g), (4, .int (nI i))]) E rfl (by decide) rfl dX3_has_48 ?_
          refine k_iinc (q := 4) (v := nI (i + 1)) (lv' := [(4, .int (nI (i + 1))), (3, .int 0), (0, .ref (a 0)), (1, .int b), (2, .int g)]) E rfl (nI_inc _) (by decide) rfl dX3_has_49 ?_
          refine k_goto E (tgt := 5) (by decide) dX3_has_52 ?_
          refine k_lv [2, 3, 4, 1, 0] rfl ?_
          exact ih5 (i + 1) false (by omega) (by rw [eB, ← hx]; clear hx; simp [*])
        · skip
          refine k_aload_n E 0 rfl rfl dX3_has_32 ?_
          refine k_get E inX3 0 rfl rfl 16 (by decide) q_691 rfl rfl dX3_has_33 ?_
          refine k_iload E 4 rfl dX3_has_36 ?_
          refine k_cald E (j := i) 11 1 rfl rfl rfl (by omega) (by decide) dX3_has_38 ?_
          refine k_iload_n E 2 rfl rfl dX3_has_39 ?_
          refine k_icmp_ne E (tgt := 47) (by decide) dX3_has_40 (fun c40 => ?_) (fun c40 => ?_)
          · skip
            refine k_iconst E (v := 0) (by decide) dX3_has_47 ?_
            refine k_istore_n (lv' := [(3, .int 0), (0, .ref (a 0)), (1, .int b), (2, .int g), (4, .int (nI i))]) E rfl (by decide) rfl dX3_has_48 ?_
            refine k_iinc (q := 4) (v := nI (i + 1)) (lv' := [(4, .int (nI (i + 1))), (3, .int 0), (0, .ref (a 0)), (1, .int b), (2, .int g)]) E rfl (nI_inc _) (by decide) rfl dX3_has_49 ?_
            refine k_goto E (tgt := 5) (by decide) dX3_has_52 ?_
            refine k_lv [2, 3, 4, 1, 0] rfl ?_
            exact ih5 (i + 1) false (by omega) (by rw [eB, ← hx]; clear hx; simp [*])
          · skip
            refine k_iconst E (v := 1) (by decide) dX3_has_43 ?_
            refine k_goto E (tgt := 48) (by decide) dX3_has_44 ?_
            refine k_istore_n (lv' := [(3, .int 1), (0, .ref (a 0)), (1, .int b), (2, .int g), (4, .int (nI i))]) E rfl (by decide) rfl dX3_has_48 ?_
            refine k_iinc (q := 4) (v := nI (i + 1)) (lv' := [(4, .int (nI (i + 1))), (3, .int 1), (0, .ref (a 0)), (1, .int b), (2, .int g)]) E rfl (nI_inc _) (by decide) rfl dX3_has_49 ?_
            refine k_goto E (tgt := 5) (by decide) dX3_has_52 ?_
            refine k_lv [2, 3, 4, 1, 0] rfl ?_
            exact ih5 (i + 1) true (by omega) (by rw [eB, ← hx]; clear hx; simp [*])
  refine k_lv [2, 3, 4, 1, 0] rfl ?_
  exact L5 (n - 0) 0 false (by omega) rfl
set_option maxRecDepth 100000 in
set_option maxHeartbeats 4000000 in
theorem m_X3_isGraded (l : Launch) (D : va_G) (k : Nat → ClassId) (a : Nat → Nat) (dy : Nat) (rooms : Nat → Int32) (tanks : Nat → Int32) (bests : Nat → Int32) (cows : Nat → Int32) (nf : Nat) (vrooms : Nat → Int32) (inv : Nat → Int32) (vsh : Nat → Int32) (nv : Nat) (ub : Bool) (vis : Nat → Int32) (rounds : Int32) (itk : Int32) (farm : Nat → Int32) (amount : Nat → Int32) (mark : Nat → Int32) (ways : Nat → Int32) (n : Nat) (nb : Nat) (thr : Int32) (b : Int32) (hn : n ≤ 100) : mR l yX3_isGraded cX3_isGraded 2 (some .boolean) 1 24 D (kTy k) [.ref (a 0), .int b] (wMO k a (nI dy) rooms tanks bests cows (nI nf) vrooms inv vsh (nI nv) (kB ub) vis rounds itk farm amount mark ways (nI n) (nI nb) thr) (some (.int (kB (!hsB ways mark b 45 n)))) := by
  refine mR.of (lv' := [(0, .ref (a 0)), (1, .int b)]) (by decide) (Nat.le_of_ble_eq_true rfl) rfl ?_
  intro p e s m args below meth c E hr hlk
  refine k_aload_n E 0 rfl rfl dX3_isGraded_0 ?_
  refine k_iload_n E 1 rfl rfl dX3_isGraded_1 ?_
  refine k_bipush E (v := 45) (by decide) dX3_isGraded_2 ?_
  refine k_callRV [.int b, .int 45] E (m_X3_has l D k a dy rooms tanks bests cows nf vrooms inv vsh nv ub vis rounds itk farm amount mark ways n nb thr b 45 (by first | assumption | omega)) cf_X3_has q_860 [0, 1, 2, 3, 4, 5, 6, 7, 8, 9, 10, 11, 12] rfl 0 rfl rfl rfl rfl ⟨by decide, by decide⟩ (Nat.le_of_ble_eq_true rfl) ⟨by decide, by decide⟩ dX3_isGraded_4 ?_
  refine k_steq (st' := [.int (kB (hsB ways mark b 45 n))]) rfl ?_
  refine k_if_ne E (tgt := 14) (by decide) dX3_isGraded_7 (fun c7 => ?_) (fun c7 => ?_)
  · skip
    have c7 := kB_t c7
    refine k_iconst E (v := 0) (by decide) dX3_isGraded_14 ?_
    exact kr_zret E hr hlk rfl (by rw [c7]; rfl) dX3_isGraded_15
  · skip
    have c7 := kB_f c7
    refine k_iconst E (v := 1) (by decide) dX3_isGraded_10 ?_
    refine k_goto E (tgt := 15) (by decide) dX3_isGraded_11 ?_
    exact kr_zret E hr hlk rfl (by rw [c7]; rfl) dX3_isGraded_15
set_option maxRecDepth 100000 in
set_option maxHeartbeats 4000000 in
theorem m_X3_stateOf (l : Launch) (D : va_G) (k : Nat → ClassId) (a : Nat → Nat) (dy : Nat) (rooms : Nat → Int32) (tanks : Nat → Int32) (bests : Nat → Int32) (cows : Nat → Int32) (nf : Nat) (vrooms : Nat → Int32) (inv : Nat → Int32) (vsh : Nat → Int32) (nv : Nat) (ub : Bool) (vis : Nat → Int32) (rounds : Int32) (itk : Int32) (farm : Nat → Int32) (amount : Nat → Int32) (mark : Nat → Int32) (ways : Nat → Int32) (n : Nat) (nb : Nat) (thr : Int32) (j : Nat) (hj : j < nb) (hnb : nb ≤ 20) (hn : n ≤ 100) : mW l yX3_stateOf cX3_stateOf 2 (some .char) 2 46 0 0 D (kTy k) [.ref (a 0), .int (nI j)] (wMO k a (nI dy) rooms tanks bests cows (nI nf) vrooms inv vsh (nI nv) (kB ub) vis rounds itk farm amount mark ways (nI n) (nI nb) thr) (some (.int (stM ways mark (nI j) n))) (wMO k a (nI dy) rooms tanks bests cows (nI nf) vrooms inv vsh (nI nv) (kB ub) vis rounds itk farm amount mark ways (nI n) (nI nb) 0) := by
  refine mW.of (lv' := [(0, .ref (a 0)), (1, .int (nI j))]) (by decide) (Nat.le_of_ble_eq_true rfl) rfl ?_
  intro p e s m args below meth c E hr hlk hm hA
  refine k_aload_n E 0 rfl rfl dX3_stateOf_0 ?_
  refine k_aload_n E 0 rfl rfl dX3_stateOf_1 ?_
  refine k_iload_n E 1 rfl rfl dX3_stateOf_2 ?_
  refine k_callRV [.int (nI j)] E (m_X3_isBatch l D k a dy rooms tanks bests cows nf vrooms inv vsh nv ub vis rounds itk farm amount mark ways n nb thr (nI j)) cf_X3_isBatch q_856 [0, 1, 2, 3, 4, 5, 6, 7, 8, 9, 10, 11, 12] rfl 0 rfl rfl rfl rfl ⟨by decide, by decide⟩ (Nat.le_of_ble_eq_true rfl) ⟨by decide, by decide⟩ dX3_stateOf_3 ?_
  refine k_steq (st' := [.int (kB (isR (nI j) nb)), .ref (a 0)]) rfl ?_
  refine k_if_eq E (tgt := 13) (by decide) dX3_stateOf_6 (fun c6 => absurd (kB_f c6) (by first | (rw [isR_t hj (by omega)]; decide) | (rw [show inL _ _ _ = true from isR_t hj (by omega)]; decide))) (fun c6 => ?_)
  have c6 := kB_t c6
  refine k_iconst E (v := 0) (by decide) dX3_stateOf_9 ?_
  refine k_goto E (tgt := 14) (by decide) dX3_stateOf_10 ?_
  refine k_put (ws' := (wMO k a (nI dy) rooms tanks bests cows (nI nf) vrooms inv vsh (nI nv) (kB ub) vis rounds itk farm amount mark ways (nI n) (nI nb) 0)) E inX3 tyX3 tyX3_ok nmX3 0 rfl rfl 20 (by decide) q_695 rfl rfl rfl rfl (Nat.le_of_ble_eq_true rfl) rfl dX3_stateOf_14 ?_
  refine k_aload_n E 0 rfl rfl dX3_stateOf_17 ?_
  refine k_get E inX3 0 rfl rfl 20 (by decide) q_695 rfl rfl dX3_stateOf_18 ?_
  refine k_if_le E (tgt := 29) (by decide) dX3_stateOf_21 (fun _ => ?_) (fun h => absurd (by decide) h)
  refine k_aload_n E 0 rfl rfl dX3_stateOf_29 ?_
  refine k_iload_n E 1 rfl rfl dX3_stateOf_30 ?_
  refine k_bipush E (v := 120) (by decide) dX3_stateOf_31 ?_
  refine k_callRV [.int (nI j), .int 120] E (m_X3_has l D k a dy rooms tanks bests cows nf vrooms inv vsh nv ub vis rounds itk farm amount mark ways n nb 0 (nI j) 120 (by first | assumption | omega)) cf_X3_has q_860 [0, 1, 2, 3, 4, 5, 6, 7, 8, 9, 10, 11, 12] rfl 0 rfl rfl rfl rfl ⟨by decide, by decide⟩ (Nat.le_of_ble_eq_true rfl) ⟨by decide, by decide⟩ dX3_stateOf_33 ?_
  refine k_steq (st' := [.int (kB (hsB ways mark (nI j) 120 n))]) rfl ?_
  refine k_if_eq E (tgt := 44) (by decide) dX3_stateOf_36 (fun c36 => ?_) (fun c36 => ?_)
  · skip
    have c36 := kB_f c36
    refine k_aload_n E 0 rfl rfl dX3_stateOf_44 ?_
    refine k_iload_n E 1 rfl rfl dX3_stateOf_45 ?_
    refine k_bipush E (v := 45) (by decide) dX3_stateOf_46 ?_
    refine k_callRV [.int (nI j), .int 45] E (m_X3_has l D k a dy rooms tanks bests cows nf vrooms inv vsh nv ub vis rounds itk farm amount mark ways n nb 0 (nI j) 45 (by first | assumption | omega)) cf_X3_has q_860 [0, 1, 2, 3, 4, 5, 6, 7, 8, 9, 10, 11, 12] rfl 0 rfl rfl rfl rfl ⟨by decide, by decide⟩ (Nat.le_of_ble_eq_true rfl) ⟨by decide, by decide⟩ dX3_stateOf_48 ?_
    refine k_steq (st' := [.int (kB (hsB ways mark (nI j) 45 n))]) rfl ?_
    refine k_if_eq E (tgt := 59) (by decide) dX3_stateOf_51 (fun c51 => ?_) (fun c51 => ?_)
    · skip
      have c51 := kB_f c51
      refine k_bipush E (v := 103) (by decide) dX3_stateOf_59 ?_
      exact kw_zret E rfl hr hlk (by simp [stM, *]) rfl (by decide) (by decide) dX3_stateOf_61
    · skip
      have c51 := kB_t c51
      refine k_bipush E (v := 119) (by decide) dX3_stateOf_54 ?_
      refine k_goto E (tgt := 61) (by decide) dX3_stateOf_56 ?_
      exact kw_zret E rfl hr hlk (by simp [stM, *]) rfl (by decide) (by decide) dX3_stateOf_61
  · skip
    have c36 := kB_t c36
    refine k_bipush E (v := 120) (by decide) dX3_stateOf_39 ?_
    refine k_goto E (tgt := 61) (by decide) dX3_stateOf_41 ?_
    exact kw_zret E rfl hr hlk (by simp [stM, *]) rfl (by decide) (by decide) dX3_stateOf_61
set_option maxRecDepth 100000 in
set_option maxHeartbeats 4000000 in
theorem m_X3_stateOf_i (l : Launch) (D : va_G) (k : Nat → ClassId) (a : Nat → Nat) (dy : Nat) (rooms : Nat → Int32) (tanks : Nat → Int32) (bests : Nat → Int32) (cows : Nat → Int32) (nf : Nat) (vrooms : Nat → Int32) (inv : Nat → Int32) (vsh : Nat → Int32) (nv : Nat) (ub : Bool) (vis : Nat → Int32) (rounds : Int32) (itk : Int32) (farm : Nat → Int32) (amount : Nat → Int32) (mark : Nat → Int32) (ways : Nat → Int32) (n : Nat) (nb : Nat) (thr : Int32) (fa : Int32) (hb : fa < 0 ∨ nI nb ≤ fa) (hnb : nb ≤ 20) : mW l yX3_stateOf cX3_stateOf 2 (some .char) 2 46 0 0 D (kTy k) [.ref (a 0), .int fa] (wMO k a (nI dy) rooms tanks bests cows (nI nf) vrooms inv vsh (nI nv) (kB ub) vis rounds itk farm amount mark ways (nI n) (nI nb) thr) (some (.int 32)) (wMO k a (nI dy) rooms tanks bests cows (nI nf) vrooms inv vsh (nI nv) (kB ub) vis rounds itk farm amount mark ways (nI n) (nI nb) 1) := by
  refine mW.of (lv' := [(0, .ref (a 0)), (1, .int fa)]) (by decide) (Nat.le_of_ble_eq_true rfl) rfl ?_
  intro p e s m args below meth c E hr hlk hm hA
  refine k_aload_n E 0 rfl rfl dX3_stateOf_0 ?_
  refine k_aload_n E 0 rfl rfl dX3_stateOf_1 ?_
  refine k_iload_n E 1 rfl rfl dX3_stateOf_2 ?_
  refine k_callRV [.int fa] E (m_X3_isBatch l D k a dy rooms tanks bests cows nf vrooms inv vsh nv ub vis rounds itk farm amount mark ways n nb thr fa) cf_X3_isBatch q_856 [0, 1, 2, 3, 4, 5, 6, 7, 8, 9, 10, 11, 12] rfl 0 rfl rfl rfl rfl ⟨by decide, by decide⟩ (Nat.le_of_ble_eq_true rfl) ⟨by decide, by decide⟩ dX3_stateOf_3 ?_
  refine k_steq (st' := [.int (kB (isR fa nb)), .ref (a 0)]) rfl ?_
  refine k_if_eq E (tgt := 13) (by decide) dX3_stateOf_6 (fun c6 => ?_) (fun c6 => absurd (kB_t c6) (by first | (rw [isR_f hb (by omega)]; decide) | (rw [show inL _ _ _ = false from isR_f hb (by omega)]; decide)))
  have c6 := kB_f c6
  refine k_iconst E (v := 1) (by decide) dX3_stateOf_13 ?_
  refine k_put (ws' := (wMO k a (nI dy) rooms tanks bests cows (nI nf) vrooms inv vsh (nI nv) (kB ub) vis rounds itk farm amount mark ways (nI n) (nI nb) 1)) E inX3 tyX3 tyX3_ok nmX3 0 rfl rfl 20 (by decide) q_695 rfl rfl rfl rfl (Nat.le_of_ble_eq_true rfl) rfl dX3_stateOf_14 ?_
  refine k_aload_n E 0 rfl rfl dX3_stateOf_17 ?_
  refine k_get E inX3 0 rfl rfl 20 (by decide) q_695 rfl rfl dX3_stateOf_18 ?_
  refine k_if_le E (tgt := 29) (by decide) dX3_stateOf_21 (fun h => absurd h (by decide)) (fun _ => ?_)
  refine k_bipush E (v := 32) (by decide) dX3_stateOf_24 ?_
  refine k_goto E (tgt := 61) (by decide) dX3_stateOf_26 ?_
  exact kw_zret E rfl hr hlk rfl rfl (by decide) (by decide) dX3_stateOf_61
set_option maxRecDepth 100000 in
set_option maxHeartbeats 4000000 in
theorem m_X3_share (l : Launch) (D : va_G) (k : Nat → ClassId) (a : Nat → Nat) (dy : Nat) (rooms : Nat → Int32) (tanks : Nat → Int32) (bests : Nat → Int32) (cows : Nat → Int32) (nf : Nat) (vrooms : Nat → Int32) (inv : Nat → Int32) (vsh : Nat → Int32) (nv : Nat) (ub : Bool) (vis : Nat → Int32) (rounds : Int32) (itk : Int32) (farm : Nat → Int32) (amount : Nat → Int32) (mark : Nat → Int32) (ways : Nat → Int32) (n : Nat) (nb : Nat) (thr : Int32) (j : Nat) (ix : Int32) (hj : j < nb) (hnb : nb ≤ 20) (hn : n ≤ 100) (h0 : ¬ sh (fun zi => decide (ways zi = 10 + nI j)) ix n = -1) : mW l yX3_share cX3_share 5 (some .int) 2 46 0 0 D (kTy k) [.ref (a 0), .int (nI j), .int ix] (wMO k a (nI dy) rooms tanks bests cows (nI nf) vrooms inv vsh (nI nv) (kB ub) vis rounds itk farm amount mark ways (nI n) (nI nb) thr) (some (.int (sh (fun zi => decide (ways zi = 10 + nI j)) ix n))) (wMO k a (nI dy) rooms tanks bests cows (nI nf) vrooms inv vsh (nI nv) (kB ub) vis rounds itk farm amount mark ways (nI n) (nI nb) 0) := by
  refine mW.of (lv' := [(0, .ref (a 0)), (1, .int (nI j)), (2, .int ix)]) (by decide) (Nat.le_of_ble_eq_true rfl) rfl ?_
  intro p e s m args below meth c E hr hlk hm hA
  refine k_aload_n E 0 rfl rfl dX3_share_0 ?_
  refine k_aload_n E 0 rfl rfl dX3_share_1 ?_
  refine k_iload_n E 1 rfl rfl dX3_share_2 ?_
  refine k_callRV [.int (nI j)] E (m_X3_isBatch l D k a dy rooms tanks bests cows nf vrooms inv vsh nv ub vis rounds itk farm amount mark ways n nb thr (nI j)) cf_X3_isBatch q_856 [0, 1, 2, 3, 4, 5, 6, 7, 8, 9, 10, 11, 12] rfl 0 rfl rfl rfl rfl ⟨by decide, by decide⟩ (Nat.le_of_ble_eq_true rfl) ⟨by decide, by decide⟩ dX3_share_3 ?_
  refine k_steq (st' := [.int (kB (isR (nI j) nb)), .ref (a 0)]) rfl ?_
  refine k_if_ne E (tgt := 13) (by decide) dX3_share_6 (fun c6 => ?_) (fun c6 => absurd (kB_f c6) (by first | (rw [isR_t hj (by omega)]; decide) | (rw [show inL _ _ _ = true from isR_t hj (by omega)]; decide)))
  have c6 := kB_t c6
  refine k_iconst E (v := 2) (by decide) dX3_share_13 ?_
  refine k_put (ws' := (wMO k a (nI dy) rooms tanks bests cows (nI nf) vrooms inv vsh (nI nv) (kB ub) vis rounds itk farm amount mark ways (nI n) (nI nb) 2)) E inX3 tyX3 tyX3_ok nmX3 0 rfl rfl 20 (by decide) q_695 rfl rfl rfl rfl (Nat.le_of_ble_eq_true rfl) rfl dX3_share_14 ?_
  refine k_iconst E (v := 0) (by decide) dX3_share_17 ?_
  refine k_istore_n (lv' := [(3, .int 0), (0, .ref (a 0)), (1, .int (nI j)), (2, .int ix)]) E rfl (by decide) rfl dX3_share_18 ?_
  refine k_iconst E (v := 0) (by decide) dX3_share_19 ?_
  refine k_istore (lv' := [(4, .int 0), (3, .int 0), (0, .ref (a 0)), (1, .int (nI j)), (2, .int ix)]) E (by decide) rfl dX3_share_20 ?_
  have L22 : ∀ (dn22 : Nat) (i : Nat) (x : Int32), i + dn22 = n → (x = sI (fun zi => decide (ways zi = 10 + nI j)) (fun _ => 1) i) → (sh (fun zi => decide (ways zi = 10 + nI j)) ix i = -1) → kJ p l e (kRmc 2 46 0 0) s m args below meth c (gW D (va_A (wMO k a (nI dy) rooms tanks bests cows (nI nf) vrooms inv vsh (nI nv) (kB ub) vis rounds itk farm amount mark ways (nI n) (nI nb) thr) s.heap.size) s.heap) 5 0 0 (MQ below (kQw (some (.int (sh (fun zi => decide (ways zi = 10 + nI j)) ix n))) D (wMO k a (nI dy) rooms tanks bests cows (nI nf) vrooms inv vsh (nI nv) (kB ub) vis rounds itk farm amount mark ways (nI n) (nI nb) thr) (wMO k a (nI dy) rooms tanks bests cows (nI nf) vrooms inv vsh (nI nv) (kB ub) vis rounds itk farm amount mark ways (nI n) (nI nb) 0) s.heap.size) args s 0 0 (va_A (wMO k a (nI dy) rooms tanks bests cows (nI nf) vrooms inv vsh (nI nv) (kB ub) vis rounds itk farm amount mark ways (nI n) (nI nb) thr) s.heap.size)) (wMO k a (nI dy) rooms tanks bests cows (nI nf) vrooms inv vsh (nI nv) (kB ub) vis rounds itk farm amount mark ways (nI n) (nI nb) 2) 22 [(0, .ref (a 0)), (1, .int (nI j)), (2, .int ix), (3, .int x), (4, .int (nI i))] [] := by
    intro dn22
    induction dn22 with
    | zero =>
      intro i x hd22 hx hs
      refine k_iload E 4 rfl dX3_share_22 ?_
      refine k_aload_n E 0 rfl rfl dX3_share_24 ?_
      refine k_get E inX3 0 rfl rfl 18 (by decide) q_693 rfl rfl dX3_share_25 ?_
      refine k_icmp_ge E (tgt := 75) (by decide) dX3_share_28 (fun c28 => ?_) (fun c28 => absurd ((not_congr (nI_leI (a := n) (b := i) (by omega) (by omega))).mp c28) (by omega))
      have c28 := (nI_leI (a := n) (b := i) (by omega) (by omega)).mp c28
      exact absurd (by rw [← hs, show i = n by omega]) h0
    | succ dn22 ih22 =>
      intro i x hd22 hx hs
      refine k_iload E 4 rfl dX3_share_22 ?_
      refine k_aload_n E 0 rfl rfl dX3_share_24 ?_
      refine k_get E inX3 0 rfl rfl 18 (by decide) q_693 rfl rfl dX3_share_25 ?_
      refine k_icmp_ge E (tgt := 75) (by decide) dX3_share_28 (fun c28 => absurd ((nI_leI (a := n) (b := i) (by omega) (by omega)).mp c28) (by omega)) (fun c28 => ?_)
      have c28 := (not_congr (nI_leI (a := n) (b := i) (by omega) (by omega))).mp c28
      refine k_aload_n E 0 rfl rfl dX3_share_31 ?_
      refine k_get E inX3 0 rfl rfl 20 (by decide) q_695 rfl rfl dX3_share_32 ?_
      refine k_iconst E (v := 2) (by decide) dX3_share_35 ?_
      refine k_icmp_ne E (tgt := 75) (by decide) dX3_share_36 (fun h => absurd (by decide) h) (fun _ => ?_)
      refine k_aload_n E 0 rfl rfl dX3_share_39 ?_
      refine k_get E inX3 0 rfl rfl 17 (by decide) q_692 rfl rfl dX3_share_40 ?_
      refine k_iload E 4 rfl dX3_share_43 ?_
      refine k_iald E (j := i) 12 0 rfl rfl rfl (by omega) (by decide) dX3_share_45 ?_
      refine k_bipush E (v := 10) (by decide) dX3_share_46 ?_
      refine k_iload_n E 1 rfl rfl dX3_share_48 ?_
      refine k_iadd E dX3_share_49 ?_
      refine k_icmp_ne E (tgt := 69) (by decide) dX3_share_50 (fun c50 => ?_) (fun c50 => ?_)
      · skip
        refine k_iinc (q := 4) (v := nI (i + 1)) (lv' := [(4, .int (nI (i + 1))), (0, .ref (a 0)), (1, .int (nI j)), (2, .int ix), (3, .int x)]) E rfl (nI_inc _) (by decide) rfl dX3_share_69 ?_
        refine k_goto E (tgt := 22) (by decide) dX3_share_72 ?_
        refine k_lv [1, 2, 3, 4, 0] rfl ?_
        exact ih22 (i + 1) x (by omega) (by simp [sI, *]) (by refine sh_n hs (fun q => ?_); first | (exact c55 (by rw [hx]; exact q.2)) | (exact absurd q.1 (by simp [c50])))
      · skip
        refine k_iload_n E 3 rfl rfl dX3_share_53 ?_
        refine k_iload_n E 2 rfl rfl dX3_share_54 ?_
        refine k_icmp_ne E (tgt := 66) (by decide) dX3_share_55 (fun c55 => ?_) (fun c55 => ?_)
        · skip
          refine k_iinc (q := 3) (v := x + 1) (lv' := [(3, .int (x + 1)), (0, .ref (a 0)), (1, .int (nI j)), (2, .int ix), (4, .int (nI i))]) E rfl rfl (by decide) rfl dX3_share_66 ?_
          refine k_iinc (q := 4) (v := nI (i + 1)) (lv' := [(4, .int (nI (i + 1))), (3, .int (x + 1)), (0, .ref (a 0)), (1, .int (nI j)), (2, .int ix)]) E rfl (nI_inc _) (by decide) rfl dX3_share_69 ?_
          refine k_goto E (tgt := 22) (by decide) dX3_share_72 ?_
          refine k_lv [2, 3, 4, 1, 0] rfl ?_
          exact ih22 (i + 1) (x + 1) (by omega) (by simp [sI, *]) (by refine sh_n hs (fun q => ?_); first | (exact c55 (by rw [hx]; exact q.2)) | (exact absurd q.1 (by simp [c50])))
        · skip
          refine k_aload_n E 0 rfl rfl dX3_share_58 ?_
          refine k_iconst E (v := 0) (by decide) dX3_share_59 ?_
          refine k_put (ws' := (wMO k a (nI dy) rooms tanks bests cows (nI nf) vrooms inv vsh (nI nv) (kB ub) vis rounds itk farm amount mark ways (nI n) (nI nb) 0)) E inX3 tyX3 tyX3_ok nmX3 0 rfl rfl 20 (by decide) q_695 rfl rfl rfl rfl (Nat.le_of_ble_eq_true rfl) rfl dX3_share_60 ?_
          refine k_iload E 4 rfl dX3_share_63 ?_
          exact kw_iret E hr hlk (by rw [sh_lt (p := fun zi => decide (ways zi = 10 + nI j)) (i := i) (by omega) hs (by simp [c50]) (by rw [← hx]; exact c55) (show i < n by omega)]) rfl (by decide) (by decide) dX3_share_65
  refine k_lv [2, 3, 4, 1, 0] rfl ?_
  exact L22 (n - 0) 0 0 (by omega) rfl rfl
set_option maxRecDepth 100000 in
set_option maxHeartbeats 4000000 in
theorem m_X3_share_r (l : Launch) (D : va_G) (k : Nat → ClassId) (a : Nat → Nat) (dy : Nat) (rooms : Nat → Int32) (tanks : Nat → Int32) (bests : Nat → Int32) (cows : Nat → Int32) (nf : Nat) (vrooms : Nat → Int32) (inv : Nat → Int32) (vsh : Nat → Int32) (nv : Nat) (ub : Bool) (vis : Nat → Int32) (rounds : Int32) (itk : Int32) (farm : Nat → Int32) (amount : Nat → Int32) (mark : Nat → Int32) (ways : Nat → Int32) (n : Nat) (nb : Nat) (thr : Int32) (j : Nat) (ix : Int32) (hj : j < nb) (hnb : nb ≤ 20) (hn : n ≤ 100) (h0 : sh (fun zi => decide (ways zi = 10 + nI j)) ix n = -1) : mW l yX3_share cX3_share 5 (some .int) 2 46 0 0 D (kTy k) [.ref (a 0), .int (nI j), .int ix] (wMO k a (nI dy) rooms tanks bests cows (nI nf) vrooms inv vsh (nI nv) (kB ub) vis rounds itk farm amount mark ways (nI n) (nI nb) thr) (some (.int (-1))) (wMO k a (nI dy) rooms tanks bests cows (nI nf) vrooms inv vsh (nI nv) (kB ub) vis rounds itk farm amount mark ways (nI n) (nI nb) 2) := by
  refine mW.of (lv' := [(0, .ref (a 0)), (1, .int (nI j)), (2, .int ix)]) (by decide) (Nat.le_of_ble_eq_true rfl) rfl ?_
  intro p e s m args below meth c E hr hlk hm hA
  refine k_aload_n E 0 rfl rfl dX3_share_0 ?_
  refine k_aload_n E 0 rfl rfl dX3_share_1 ?_
  refine k_iload_n E 1 rfl rfl dX3_share_2 ?_
  refine k_callRV [.int (nI j)] E (m_X3_isBatch l D k a dy rooms tanks bests cows nf vrooms inv vsh nv ub vis rounds itk farm amount mark ways n nb thr (nI j)) cf_X3_isBatch q_856 [0, 1, 2, 3, 4, 5, 6, 7, 8, 9, 10, 11, 12] rfl 0 rfl rfl rfl rfl ⟨by decide, by decide⟩ (Nat.le_of_ble_eq_true rfl) ⟨by decide, by decide⟩ dX3_share_3 ?_
  refine k_steq (st' := [.int (kB (isR (nI j) nb)), .ref (a 0)]) rfl ?_
  refine k_if_ne E (tgt := 13) (by decide) dX3_share_6 (fun c6 => ?_) (fun c6 => absurd (kB_f c6) (by first | (rw [isR_t hj (by omega)]; decide) | (rw [show inL _ _ _ = true from isR_t hj (by omega)]; decide)))
  have c6 := kB_t c6
  refine k_iconst E (v := 2) (by decide) dX3_share_13 ?_
  refine k_put (ws' := (wMO k a (nI dy) rooms tanks bests cows (nI nf) vrooms inv vsh (nI nv) (kB ub) vis rounds itk farm amount mark ways (nI n) (nI nb) 2)) E inX3 tyX3 tyX3_ok nmX3 0 rfl rfl 20 (by decide) q_695 rfl rfl rfl rfl (Nat.le_of_ble_eq_true rfl) rfl dX3_share_14 ?_
  refine k_iconst E (v := 0) (by decide) dX3_share_17 ?_
  refine k_istore_n (lv' := [(3, .int 0), (0, .ref (a 0)), (1, .int (nI j)), (2, .int ix)]) E rfl (by decide) rfl dX3_share_18 ?_
  refine k_iconst E (v := 0) (by decide) dX3_share_19 ?_
  refine k_istore (lv' := [(4, .int 0), (3, .int 0), (0, .ref (a 0)), (1, .int (nI j)), (2, .int ix)]) E (by decide) rfl dX3_share_20 ?_
  have L22 : ∀ (dn22 : Nat) (i : Nat) (x : Int32), i + dn22 = n → (x = sI (fun zi => decide (ways zi = 10 + nI j)) (fun _ => 1) i) → (sh (fun zi => decide (ways zi = 10 + nI j)) ix i = -1) → kJ p l e (kRmc 2 46 0 0) s m args below meth c (gW D (va_A (wMO k a (nI dy) rooms tanks bests cows (nI nf) vrooms inv vsh (nI nv) (kB ub) vis rounds itk farm amount mark ways (nI n) (nI nb) thr) s.heap.size) s.heap) 5 0 0 (MQ below (kQw (some (.int (-1))) D (wMO k a (nI dy) rooms tanks bests cows (nI nf) vrooms inv vsh (nI nv) (kB ub) vis rounds itk farm amount mark ways (nI n) (nI nb) thr) (wMO k a (nI dy) rooms tanks bests cows (nI nf) vrooms inv vsh (nI nv) (kB ub) vis rounds itk farm amount mark ways (nI n) (nI nb) 2) s.heap.size) args s 0 0 (va_A (wMO k a (nI dy) rooms tanks bests cows (nI nf) vrooms inv vsh (nI nv) (kB ub) vis rounds itk farm amount mark ways (nI n) (nI nb) thr) s.heap.size)) (wMO k a (nI dy) rooms tanks bests cows (nI nf) vrooms inv vsh (nI nv) (kB ub) vis rounds itk farm amount mark ways (nI n) (nI nb) 2) 22 [(0, .ref (a 0)), (1, .int (nI j)), (2, .int ix), (3, .int x), (4, .int (nI i))] [] := by
    intro dn22
    induction dn22 with
    | zero =>
      intro i x hd22 hx hs
      refine k_iload E 4 rfl dX3_share_22 ?_
      refine k_aload_n E 0 rfl rfl dX3_share_24 ?_
      refine k_get E inX3 0 rfl rfl 18 (by decide) q_693 rfl rfl dX3_share_25 ?_
      refine k_icmp_ge E (tgt := 75) (by decide) dX3_share_28 (fun c28 => ?_) (fun c28 => absurd ((not_congr (nI_leI (a := n) (b := i) (by omega) (by omega))).mp c28) (by omega))
      have c28 := (nI_leI (a := n) (b := i) (by omega) (by omega)).mp c28
      refine k_iconst E (v := (-1)) (by decide) dX3_share_75 ?_
      exact kw_iret E hr hlk rfl rfl (by decide) (by decide) dX3_share_76
    | succ dn22 ih22 =>
      intro i x hd22 hx hs
      refine k_iload E 4 rfl dX3_share_22 ?_
      refine k_aload_n E 0 rfl rfl dX3_share_24 ?_
      refine k_get E inX3 0 rfl rfl 18 (by decide) q_693 rfl rfl dX3_share_25 ?_
      refine k_icmp_ge E (tgt := 75) (by decide) dX3_share_28 (fun c28 => absurd ((nI_leI (a := n) (b := i) (by omega) (by omega)).mp c28) (by omega)) (fun c28 => ?_)
      have c28 := (not_congr (nI_leI (a := n) (b := i) (by omega) (by omega))).mp c28
      refine k_aload_n E 0 rfl rfl dX3_share_31 ?_
      refine k_get E inX3 0 rfl rfl 20 (by decide) q_695 rfl rfl dX3_share_32 ?_
      refine k_iconst E (v := 2) (by decide) dX3_share_35 ?_
      refine k_icmp_ne E (tgt := 75) (by decide) dX3_share_36 (fun h => absurd (by decide) h) (fun _ => ?_)
      refine k_aload_n E 0 rfl rfl dX3_share_39 ?_
      refine k_get E inX3 0 rfl rfl 17 (by decide) q_692 rfl rfl dX3_share_40 ?_
      refine k_iload E 4 rfl dX3_share_43 ?_
      refine k_iald E (j := i) 12 0 rfl rfl rfl (by omega) (by decide) dX3_share_45 ?_
      refine k_bipush E (v := 10) (by decide) dX3_share_46 ?_
      refine k_iload_n E 1 rfl rfl dX3_share_48 ?_
      refine k_iadd E dX3_share_49 ?_
      refine k_icmp_ne E (tgt := 69) (by decide) dX3_share_50 (fun c50 => ?_) (fun c50 => ?_)
      · skip
        refine k_iinc (q := 4) (v := nI (i + 1)) (lv' := [(4, .int (nI (i + 1))), (0, .ref (a 0)), (1, .int (nI j)), (2, .int ix), (3, .int x)]) E rfl (nI_inc _) (by decide) rfl dX3_share_69 ?_
        refine k_goto E (tgt := 22) (by decide) dX3_share_72 ?_
        refine k_lv [1, 2, 3, 4, 0] rfl ?_
        exact ih22 (i + 1) x (by omega) (by simp [sI, *]) (by refine sh_n hs (fun q => ?_); first | (exact c55 (by rw [hx]; exact q.2)) | (exact absurd q.1 (by simp [c50])))
      · skip
        refine k_iload_n E 3 rfl rfl dX3_share_53 ?_
        refine k_iload_n E 2 rfl rfl dX3_share_54 ?_
        refine k_icmp_ne E (tgt := 66) (by decide) dX3_share_55 (fun c55 => ?_) (fun c55 => ?_)
        · skip
          refine k_iinc (q := 3) (v := x + 1) (lv' := [(3, .int (x + 1)), (0, .ref (a 0)), (1, .int (nI j)), (2, .int ix), (4, .int (nI i))]) E rfl rfl (by decide) rfl dX3_share_66 ?_
          refine k_iinc (q := 4) (v := nI (i + 1)) (lv' := [(4, .int (nI (i + 1))), (3, .int (x + 1)), (0, .ref (a 0)), (1, .int (nI j)), (2, .int ix)]) E rfl (nI_inc _) (by decide) rfl dX3_share_69 ?_
          refine k_goto E (tgt := 22) (by decide) dX3_share_72 ?_
          refine k_lv [2, 3, 4, 1, 0] rfl ?_
          exact ih22 (i + 1) (x + 1) (by omega) (by simp [sI, *]) (by refine sh_n hs (fun q => ?_); first | (exact c55 (by rw [hx]; exact q.2)) | (exact absurd q.1 (by simp [c50])))
        · skip
          exact absurd (h0.symm.trans (sh_lt (p := fun zi => decide (ways zi = 10 + nI j)) (i := i) (by omega) hs (by simp [c50]) (by rw [← hx]; exact c55) (show i < n by omega))).symm (nI_neg1 (by omega))
  refine k_lv [2, 3, 4, 1, 0] rfl ?_
  exact L22 (n - 0) 0 0 (by omega) rfl rfl
set_option maxRecDepth 100000 in
set_option maxHeartbeats 4000000 in
theorem m_X3_share_i (l : Launch) (D : va_G) (k : Nat → ClassId) (a : Nat → Nat) (dy : Nat) (rooms : Nat → Int32) (tanks : Nat → Int32) (bests : Nat → Int32) (cows : Nat → Int32) (nf : Nat) (vrooms : Nat → Int32) (inv : Nat → Int32) (vsh : Nat → Int32) (nv : Nat) (ub : Bool) (vis : Nat → Int32) (rounds : Int32) (itk : Int32) (farm : Nat → Int32) (amount : Nat → Int32) (mark : Nat → Int32) (ways : Nat → Int32) (n : Nat) (nb : Nat) (thr : Int32) (fa : Int32) (ix : Int32) (hb : fa < 0 ∨ nI nb ≤ fa) (hnb : nb ≤ 20) (hn : n ≤ 100) : mW l yX3_share cX3_share 5 (some .int) 2 46 0 0 D (kTy k) [.ref (a 0), .int fa, .int ix] (wMO k a (nI dy) rooms tanks bests cows (nI nf) vrooms inv vsh (nI nv) (kB ub) vis rounds itk farm amount mark ways (nI n) (nI nb) thr) (some (.int (-1))) (wMO k a (nI dy) rooms tanks bests cows (nI nf) vrooms inv vsh (nI nv) (kB ub) vis rounds itk farm amount mark ways (nI n) (nI nb) 1) := by
  refine mW.of (lv' := [(0, .ref (a 0)), (1, .int fa), (2, .int ix)]) (by decide) (Nat.le_of_ble_eq_true rfl) rfl ?_
  intro p e s m args below meth c E hr hlk hm hA
  refine k_aload_n E 0 rfl rfl dX3_share_0 ?_
  refine k_aload_n E 0 rfl rfl dX3_share_1 ?_
  refine k_iload_n E 1 rfl rfl dX3_share_2 ?_
  refine k_callRV [.int fa] E (m_X3_isBatch l D k a dy rooms tanks bests cows nf vrooms inv vsh nv ub vis rounds itk farm amount mark ways n nb thr fa) cf_X3_isBatch q_856 [0, 1, 2, 3, 4, 5, 6, 7, 8, 9, 10, 11, 12] rfl 0 rfl rfl rfl rfl ⟨by decide, by decide⟩ (Nat.le_of_ble_eq_true rfl) ⟨by decide, by decide⟩ dX3_share_3 ?_
  refine k_steq (st' := [.int (kB (isR fa nb)), .ref (a 0)]) rfl ?_
  refine k_if_ne E (tgt := 13) (by decide) dX3_share_6 (fun c6 => absurd (kB_t c6) (by first | (rw [isR_f hb (by omega)]; decide) | (rw [show inL _ _ _ = false from isR_f hb (by omega)]; decide))) (fun c6 => ?_)
  have c6 := kB_f c6
  refine k_iconst E (v := 1) (by decide) dX3_share_9 ?_
  refine k_goto E (tgt := 14) (by decide) dX3_share_10 ?_
  refine k_put (ws' := (wMO k a (nI dy) rooms tanks bests cows (nI nf) vrooms inv vsh (nI nv) (kB ub) vis rounds itk farm amount mark ways (nI n) (nI nb) 1)) E inX3 tyX3 tyX3_ok nmX3 0 rfl rfl 20 (by decide) q_695 rfl rfl rfl rfl (Nat.le_of_ble_eq_true rfl) rfl dX3_share_14 ?_
  refine k_iconst E (v := 0) (by decide) dX3_share_17 ?_
  refine k_istore_n (lv' := [(3, .int 0), (0, .ref (a 0)), (1, .int fa), (2, .int ix)]) E rfl (by decide) rfl dX3_share_18 ?_
  refine k_iconst E (v := 0) (by decide) dX3_share_19 ?_
  refine k_istore (lv' := [(4, .int 0), (3, .int 0), (0, .ref (a 0)), (1, .int fa), (2, .int ix)]) E (by decide) rfl dX3_share_20 ?_
  refine k_iload E 0 rfl dX3_share_22 ?_
  refine k_aload_n E 2 rfl rfl dX3_share_24 ?_
  refine k_get E inX3 0 rfl rfl 18 (by decide) q_693 rfl rfl dX3_share_25 ?_
  refine k_icmp_ge E (tgt := 75) (by decide) dX3_share_28 (fun c28 => ?_) (fun c28 => ?_)
  · skip
    have c28 := (nI_leI (a := n) (b := 0) (by omega) (by omega)).mp c28
    refine k_iconst E (v := (-1)) (by decide) dX3_share_75 ?_
    exact kw_iret E hr hlk rfl rfl (by decide) (by decide) dX3_share_76
  · skip
    have c28 := (not_congr (nI_leI (a := n) (b := 0) (by omega) (by omega))).mp c28
    refine k_aload_n E 2 rfl rfl dX3_share_31 ?_
    refine k_get E inX3 0 rfl rfl 20 (by decide) q_695 rfl rfl dX3_share_32 ?_
    refine k_iconst E (v := 2) (by decide) dX3_share_35 ?_
    refine k_icmp_ne E (tgt := 75) (by decide) dX3_share_36 (fun _ => ?_) (fun h => absurd h (by decide))
    refine k_iconst E (v := (-1)) (by decide) dX3_share_75 ?_
    exact kw_iret E hr hlk rfl rfl (by decide) (by decide) dX3_share_76
set_option maxRecDepth 100000 in
set_option maxHeartbeats 4000000 in
theorem m_X3_worthOf (l : Launch) (D : va_G) (k : Nat → ClassId) (a : Nat → Nat) (dy : Nat) (rooms : Nat → Int32) (tanks : Nat → Int32) (bests : Nat → Int32) (cows : Nat → Int32) (nf : Nat) (vrooms : Nat → Int32) (inv : Nat → Int32) (vsh : Nat → Int32) (nv : Nat) (ub : Bool) (vis : Nat → Int32) (rounds : Int32) (itk : Int32) (farm : Nat → Int32) (amount : Nat → Int32) (mark : Nat → Int32) (ways : Nat → Int32) (n : Nat) (nb : Nat) (thr : Int32) (j : Nat) (hj : j < 100) : mR l yX3_worthOf cX3_worthOf 3 (some .int) 0 0 D (kTy k) [.ref (a 0), .int (nI j)] (wMO k a (nI dy) rooms tanks bests cows (nI nf) vrooms inv vsh (nI nv) (kB ub) vis rounds itk farm amount mark ways (nI n) (nI nb) thr) (some (.int (cents (mark j) * amount j))) := by
  refine mR.of (lv' := [(0, .ref (a 0)), (1, .int (nI j))]) (by decide) (Nat.le_of_ble_eq_true rfl) rfl ?_
  intro p e s m args below meth c E hr hlk
  refine k_aload_n E 0 rfl rfl dX3_worthOf_0 ?_
  refine k_get E inX3 0 rfl rfl 16 (by decide) q_691 rfl rfl dX3_worthOf_1 ?_
  refine k_iload_n E 1 rfl rfl dX3_worthOf_4 ?_
  refine k_cald E (j := j) 11 1 rfl rfl rfl (by omega) (by decide) dX3_worthOf_5 ?_
  refine k_bipush E (v := 97) (by decide) dX3_worthOf_6 ?_
  refine k_icmp_ne E (tgt := 16) (by decide) dX3_worthOf_8 (fun c8 => ?_) (fun c8 => ?_)
  · skip
    refine k_aload_n E 0 rfl rfl dX3_worthOf_16 ?_
    refine k_get E inX3 0 rfl rfl 16 (by decide) q_691 rfl rfl dX3_worthOf_17 ?_
    refine k_iload_n E 1 rfl rfl dX3_worthOf_20 ?_
    refine k_cald E (j := j) 11 1 rfl rfl rfl (by omega) (by decide) dX3_worthOf_21 ?_
    refine k_bipush E (v := 98) (by decide) dX3_worthOf_22 ?_
    refine k_icmp_ne E (tgt := 32) (by decide) dX3_worthOf_24 (fun c24 => ?_) (fun c24 => ?_)
    · skip
      refine k_aload_n E 0 rfl rfl dX3_worthOf_32 ?_
      refine k_get E inX3 0 rfl rfl 16 (by decide) q_691 rfl rfl dX3_worthOf_33 ?_
      refine k_iload_n E 1 rfl rfl dX3_worthOf_36 ?_
      refine k_cald E (j := j) 11 1 rfl rfl rfl (by omega) (by decide) dX3_worthOf_37 ?_
      refine k_bipush E (v := 99) (by decide) dX3_worthOf_38 ?_
      refine k_icmp_ne E (tgt := 48) (by decide) dX3_worthOf_40 (fun c40 => ?_) (fun c40 => ?_)
      · skip
        refine k_iconst E (v := 0) (by decide) dX3_worthOf_48 ?_
        refine k_istore_n (lv' := [(2, .int 0), (0, .ref (a 0)), (1, .int (nI j))]) E rfl (by decide) rfl dX3_worthOf_49 ?_
        refine k_iload_n E 0 rfl rfl dX3_worthOf_50 ?_
        refine k_aload_n E 1 rfl rfl dX3_worthOf_51 ?_
        refine k_get E inX3 0 rfl rfl 15 (by decide) q_690 rfl rfl dX3_worthOf_52 ?_
        refine k_iload_n E 2 rfl rfl dX3_worthOf_55 ?_
        refine k_iald E (j := j) 10 0 rfl rfl rfl (by omega) (by decide) dX3_worthOf_56 ?_
        refine k_imul E dX3_worthOf_57 ?_
        exact kr_iret E hr hlk (by simp [cents, *]) dX3_worthOf_58
      · skip
        refine k_bipush E (v := 25) (by decide) dX3_worthOf_43 ?_
        refine k_goto E (tgt := 49) (by decide) dX3_worthOf_45 ?_
        refine k_istore_n (lv' := [(2, .int 25), (0, .ref (a 0)), (1, .int (nI j))]) E rfl (by decide) rfl dX3_worthOf_49 ?_
        refine k_iload_n E 0 rfl rfl dX3_worthOf_50 ?_
        refine k_aload_n E 1 rfl rfl dX3_worthOf_51 ?_
        refine k_get E inX3 0 rfl rfl 15 (by decide) q_690 rfl rfl dX3_worthOf_52 ?_
        refine k_iload_n E 2 rfl rfl dX3_worthOf_55 ?_
        refine k_iald E (j := j) 10 0 rfl rfl rfl (by omega) (by decide) dX3_worthOf_56 ?_
        refine k_imul E dX3_worthOf_57 ?_
        exact kr_iret E hr hlk (by simp [cents, *]) dX3_worthOf_58
    · skip
      refine k_bipush E (v := 34) (by decide) dX3_worthOf_27 ?_
      refine k_goto E (tgt := 49) (by decide) dX3_worthOf_29 ?_
      refine k_istore_n (lv' := [(2, .int 34), (0, .ref (a 0)), (1, .int (nI j))]) E rfl (by decide) rfl dX3_worthOf_49 ?_
      refine k_iload_n E 0 rfl rfl dX3_worthOf_50 ?_
      refine k_aload_n E 1 rfl rfl dX3_worthOf_51 ?_
      refine k_get E inX3 0 rfl rfl 15 (by decide) q_690 rfl rfl dX3_worthOf_52 ?_
      refine k_iload_n E 2 rfl rfl dX3_worthOf_55 ?_
      refine k_iald E (j := j) 10 0 rfl rfl rfl (by omega) (by decide) dX3_worthOf_56 ?_
      refine k_imul E dX3_worthOf_57 ?_
      exact kr_iret E hr hlk (by simp [cents, *]) dX3_worthOf_58
  · skip
    refine k_bipush E (v := 40) (by decide) dX3_worthOf_11 ?_
    refine k_goto E (tgt := 49) (by decide) dX3_worthOf_13 ?_
    refine k_istore_n (lv' := [(2, .int 40), (0, .ref (a 0)), (1, .int (nI j))]) E rfl (by decide) rfl dX3_worthOf_49 ?_
    refine k_iload_n E 0 rfl rfl dX3_worthOf_50 ?_
    refine k_aload_n E 1 rfl rfl dX3_worthOf_51 ?_
    refine k_get E inX3 0 rfl rfl 15 (by decide) q_690 rfl rfl dX3_worthOf_52 ?_
    refine k_iload_n E 2 rfl rfl dX3_worthOf_55 ?_
    refine k_iald E (j := j) 10 0 rfl rfl rfl (by omega) (by decide) dX3_worthOf_56 ?_
    refine k_imul E dX3_worthOf_57 ?_
    exact kr_iret E hr hlk (by simp [cents, *]) dX3_worthOf_58
set_option maxRecDepth 100000 in
set_option maxHeartbeats 4000000 in
theorem m_X3_payOf (l : Launch) (D : va_G) (k : Nat → ClassId) (a : Nat → Nat) (dy : Nat) (rooms : Nat → Int32) (tanks : Nat → Int32) (bests : Nat → Int32) (cows : Nat → Int32) (nf : Nat) (vrooms : Nat → Int32) (inv : Nat → Int32) (vsh : Nat → Int32) (nv : Nat) (ub : Bool) (vis : Nat → Int32) (rounds : Int32) (itk : Int32) (farm : Nat → Int32) (amount : Nat → Int32) (mark : Nat → Int32) (ways : Nat → Int32) (n : Nat) (nb : Nat) (thr : Int32) (j : Nat) (hj : j < 100) (hn : n ≤ 100) : mR l yX3_payOf cX3_payOf 2 (some .int) 1 24 D (kTy k) [.ref (a 0), .int (nI j)] (wMO k a (nI dy) rooms tanks bests cows (nI nf) vrooms inv vsh (nI nv) (kB ub) vis rounds itk farm amount mark ways (nI n) (nI nb) thr) (some (.int (payM ways mark amount n j))) := by
  refine mR.of (lv' := [(0, .ref (a 0)), (1, .int (nI j))]) (by decide) (Nat.le_of_ble_eq_true rfl) rfl ?_
  intro p e s m args below meth c E hr hlk
  refine k_aload_n E 0 rfl rfl dX3_payOf_0 ?_
  refine k_get E inX3 0 rfl rfl 17 (by decide) q_692 rfl rfl dX3_payOf_1 ?_
  refine k_iload_n E 1 rfl rfl dX3_payOf_4 ?_
  refine k_iald E (j := j) 12 0 rfl rfl rfl (by omega) (by decide) dX3_payOf_5 ?_
  refine k_bipush E (v := 10) (by decide) dX3_payOf_6 ?_
  refine k_icmp_lt E (tgt := 37) (by decide) dX3_payOf_8 (fun c8 => ?_) (fun c8 => ?_)
  · skip
    refine k_iconst E (v := 0) (by decide) dX3_payOf_37 ?_
    exact kr_iret E hr hlk (by simp [payM, *]) dX3_payOf_38
  · skip
    refine k_aload_n E 0 rfl rfl dX3_payOf_11 ?_
    refine k_aload_n E 0 rfl rfl dX3_payOf_12 ?_
    refine k_get E inX3 0 rfl rfl 17 (by decide) q_692 rfl rfl dX3_payOf_13 ?_
    refine k_iload_n E 1 rfl rfl dX3_payOf_16 ?_
    refine k_iald E (j := j) 12 0 rfl rfl rfl (by omega) (by decide) dX3_payOf_17 ?_
    refine k_bipush E (v := 10) (by decide) dX3_payOf_18 ?_
    refine k_isub E dX3_payOf_20 ?_
    refine k_bipush E (v := 120) (by decide) dX3_payOf_21 ?_
    refine k_callRV [.int ((ways j) - 10), .int 120] E (m_X3_has l D k a dy rooms tanks bests cows nf vrooms inv vsh nv ub vis rounds itk farm amount mark ways n nb thr ((ways j) - 10) 120 (by first | assumption | omega)) cf_X3_has q_860 [0, 1, 2, 3, 4, 5, 6, 7, 8, 9, 10, 11, 12] rfl 0 rfl rfl rfl rfl ⟨by decide, by decide⟩ (Nat.le_of_ble_eq_true rfl) ⟨by decide, by decide⟩ dX3_payOf_23 ?_
    refine k_steq (st' := [.int (kB (hsB ways mark ((ways j) - 10) 120 n))]) rfl ?_
    refine k_if_ne E (tgt := 37) (by decide) dX3_payOf_26 (fun c26 => ?_) (fun c26 => ?_)
    · skip
      have c26 := kB_t c26
      refine k_iconst E (v := 0) (by decide) dX3_payOf_37 ?_
      exact kr_iret E hr hlk (by simp [payM, *]) dX3_payOf_38
    · skip
      have c26 := kB_f c26
      refine k_aload_n E 0 rfl rfl dX3_payOf_29 ?_
      refine k_iload_n E 1 rfl rfl dX3_payOf_30 ?_
      refine k_callRV [.int (nI j)] E (m_X3_worthOf l D k a dy rooms tanks bests cows nf vrooms inv vsh nv ub vis rounds itk farm amount mark ways n nb thr j (by first | assumption | omega)) cf_X3_worthOf q_880 [0, 1, 2, 3, 4, 5, 6, 7, 8, 9, 10, 11, 12] rfl 0 rfl rfl rfl rfl ⟨by decide, by decide⟩ (Nat.le_of_ble_eq_true rfl) ⟨by decide, by decide⟩ dX3_payOf_31 ?_
      refine k_steq (st' := [.int (cents (mark j) * amount j)]) rfl ?_
      refine k_goto E (tgt := 38) (by decide) dX3_payOf_34 ?_
      exact kr_iret E hr hlk (by simp [payM, *]) dX3_payOf_38
set_option maxRecDepth 100000 in
set_option maxHeartbeats 4000000 in
theorem m_X3_lossOf (l : Launch) (D : va_G) (k : Nat → ClassId) (a : Nat → Nat) (dy : Nat) (rooms : Nat → Int32) (tanks : Nat → Int32) (bests : Nat → Int32) (cows : Nat → Int32) (nf : Nat) (vrooms : Nat → Int32) (inv : Nat → Int32) (vsh : Nat → Int32) (nv : Nat) (ub : Bool) (vis : Nat → Int32) (rounds : Int32) (itk : Int32) (farm : Nat → Int32) (amount : Nat → Int32) (mark : Nat → Int32) (ways : Nat → Int32) (n : Nat) (nb : Nat) (thr : Int32) (b : Int32) (hn : n ≤ 100) : mR l yX3_lossOf cX3_lossOf 4 (some .int) 1 24 D (kTy k) [.ref (a 0), .int b] (wMO k a (nI dy) rooms tanks bests cows (nI nf) vrooms inv vsh (nI nv) (kB ub) vis rounds itk farm amount mark ways (nI n) (nI nb) thr) (some (.int (losM ways mark amount b n))) := by
  refine mR.of (lv' := [(0, .ref (a 0)), (1, .int b)]) (by decide) (Nat.le_of_ble_eq_true rfl) rfl ?_
  intro p e s m args below meth c E hr hlk
  refine k_iconst E (v := 0) (by decide) dX3_lossOf_0 ?_
  refine k_istore_n (lv' := [(2, .int 0), (0, .ref (a 0)), (1, .int b)]) E rfl (by decide) rfl dX3_lossOf_1 ?_
  refine k_iconst E (v := 0) (by decide) dX3_lossOf_2 ?_
  refine k_istore_n (lv' := [(3, .int 0), (2, .int 0), (0, .ref (a 0)), (1, .int b)]) E rfl (by decide) rfl dX3_lossOf_3 ?_
  have L4 : ∀ (dn4 : Nat) (i : Nat) (x : Int32), i + dn4 = n → (x = sI (fun zi => decide (ways zi = 10 + b)) (fun zi => cents (mark zi) * amount zi) i) → kJ p l e (kRm 1 24) s m args below meth c (gR D s.heap) 4 0 0 (MQ below (kQr (some (.int (losM ways mark amount b n)))) args s 0 0 (fun _ => False)) (wMO k a (nI dy) rooms tanks bests cows (nI nf) vrooms inv vsh (nI nv) (kB ub) vis rounds itk farm amount mark ways (nI n) (nI nb) thr) 4 [(0, .ref (a 0)), (1, .int b), (2, .int x), (3, .int (nI i))] [] := by
    intro dn4
    induction dn4 with
    | zero =>
      intro i x hd4 hx
      refine k_iload_n E 3 rfl rfl dX3_lossOf_4 ?_
      refine k_aload_n E 0 rfl rfl dX3_lossOf_5 ?_
      refine k_get E inX3 0 rfl rfl 18 (by decide) q_693 rfl rfl dX3_lossOf_6 ?_
      refine k_icmp_ge E (tgt := 43) (by decide) dX3_lossOf_9 (fun c9 => ?_) (fun c9 => absurd ((not_congr (nI_leI (a := n) (b := i) (by omega) (by omega))).mp c9) (by omega))
      have c9 := (nI_leI (a := n) (b := i) (by omega) (by omega)).mp c9
      refine k_aload_n E 0 rfl rfl dX3_lossOf_43 ?_
      refine k_iload_n E 1 rfl rfl dX3_lossOf_44 ?_
      refine k_bipush E (v := 120) (by decide) dX3_lossOf_45 ?_
      refine k_callRV [.int b, .int 120] E (m_X3_has l D k a dy rooms tanks bests cows nf vrooms inv vsh nv ub vis rounds itk farm amount mark ways n nb thr b 120 (by first | assumption | omega)) cf_X3_has q_860 [0, 1, 2, 3, 4, 5, 6, 7, 8, 9, 10, 11, 12] rfl 0 rfl rfl rfl rfl ⟨by decide, by decide⟩ (Nat.le_of_ble_eq_true rfl) ⟨by decide, by decide⟩ dX3_lossOf_47 ?_
      refine k_steq (st' := [.int (kB (hsB ways mark b 120 n))]) rfl ?_
      refine k_if_eq E (tgt := 57) (by decide) dX3_lossOf_50 (fun c50 => ?_) (fun c50 => ?_)
      · skip
        have c50 := kB_f c50
        refine k_iconst E (v := 0) (by decide) dX3_lossOf_57 ?_
        exact kr_iret E hr hlk (by first | (simp [losM, c50]; done) | (rw [losM, c50, hx, show i = n by omega]; rfl)) dX3_lossOf_58
      · skip
        have c50 := kB_t c50
        refine k_iload_n E 2 rfl rfl dX3_lossOf_53 ?_
        refine k_goto E (tgt := 58) (by decide) dX3_lossOf_54 ?_
        exact kr_iret E hr hlk (by first | (simp [losM, c50]; done) | (rw [losM, c50, hx, show i = n by omega]; rfl)) dX3_lossOf_58
    | succ dn4 ih4 =>
      intro i x hd4 hx
      refine k_iload_n E 3 rfl rfl dX3_lossOf_4 ?_
      refine k_aload_n E 0 rfl rfl dX3_lossOf_5 ?_
      refine k_get E inX3 0 rfl rfl 18 (by decide) q_693 rfl rfl dX3_lossOf_6 ?_
      refine k_icmp_ge E (tgt := 43) (by decide) dX3_lossOf_9 (fun c9 => absurd ((nI_leI (a := n) (b := i) (by omega) (by omega)).mp c9) (by omega)) (fun c9 => ?_)
      have c9 := (not_congr (nI_leI (a := n) (b := i) (by omega) (by omega))).mp c9
      refine k_iload_n E 2 rfl rfl dX3_lossOf_12 ?_
      refine k_aload_n E 0 rfl rfl dX3_lossOf_13 ?_
      refine k_get E inX3 0 rfl rfl 17 (by decide) q_692 rfl rfl dX3_lossOf_14 ?_
      refine k_iload_n E 3 rfl rfl dX3_lossOf_17 ?_
      refine k_iald E (j := i) 12 0 rfl rfl rfl (by omega) (by decide) dX3_lossOf_18 ?_
      refine k_bipush E (v := 10) (by decide) dX3_lossOf_19 ?_
      refine k_iload_n E 1 rfl rfl dX3_lossOf_21 ?_
      refine k_iadd E dX3_lossOf_22 ?_
      refine k_icmp_ne E (tgt := 34) (by decide) dX3_lossOf_23 (fun c23 => ?_) (fun c23 => ?_)
      · skip
        refine k_iconst E (v := 0) (by decide) dX3_lossOf_34 ?_
        refine k_iadd E dX3_lossOf_35 ?_
        refine k_istore_n (lv' := [(2, .int (x + 0)), (0, .ref (a 0)), (1, .int b), (3, .int (nI i))]) E rfl (by decide) rfl dX3_lossOf_36 ?_
        refine k_iinc (q := 3) (v := nI (i + 1)) (lv' := [(3, .int (nI (i + 1))), (2, .int (x + 0)), (0, .ref (a 0)), (1, .int b)]) E rfl (nI_inc _) (by decide) rfl dX3_lossOf_37 ?_
        refine k_goto E (tgt := 4) (by decide) dX3_lossOf_40 ?_
        refine k_lv [2, 3, 1, 0] rfl ?_
        exact ih4 (i + 1) (x + 0) (by omega) (by simp [sI, *])
      · skip
        refine k_aload_n E 0 rfl rfl dX3_lossOf_26 ?_
        refine k_iload_n E 3 rfl rfl dX3_lossOf_27 ?_
        refine k_callRV [.int (nI i)] E (m_X3_worthOf l D k a dy rooms tanks bests cows nf vrooms inv vsh nv ub vis rounds itk farm amount mark ways n nb thr i (by first | assumption | omega)) cf_X3_worthOf q_880 [0, 1, 2, 3, 4, 5, 6, 7, 8, 9, 10, 11, 12] rfl 0 rfl rfl rfl rfl ⟨by decide, by decide⟩ (Nat.le_of_ble_eq_true rfl) ⟨by decide, by decide⟩ dX3_lossOf_28 ?_
        refine k_steq (st' := [.int (cents (mark i) * amount i), .int x]) rfl ?_
        refine k_goto E (tgt := 35) (by decide) dX3_lossOf_31 ?_
        refine k_iadd E dX3_lossOf_35 ?_
        refine k_istore_n (lv' := [(2, .int (x + (cents (mark i) * amount i))), (0, .ref (a 0)), (1, .int b), (3, .int (nI i))]) E rfl (by decide) rfl dX3_lossOf_36 ?_
        refine k_iinc (q := 3) (v := nI (i + 1)) (lv' := [(3, .int (nI (i + 1))), (2, .int (x + (cents (mark i) * amount i))), (0, .ref (a 0)), (1, .int b)]) E rfl (nI_inc _) (by decide) rfl dX3_lossOf_37 ?_
        refine k_goto E (tgt := 4) (by decide) dX3_lossOf_40 ?_
        refine k_lv [2, 3, 1, 0] rfl ?_
        exact ih4 (i + 1) (x + (cents (mark i) * amount i)) (by omega) (by simp [sI, *])
  refine k_lv [2, 3, 1, 0] rfl ?_
  exact L4 (n - 0) 0 0 (by omega) rfl
set_option maxRecDepth 100000 in
set_option maxHeartbeats 4000000 in
theorem m_X3_blameOf (l : Launch) (D : va_G) (k : Nat → ClassId) (a : Nat → Nat) (dy : Nat) (rooms : Nat → Int32) (tanks : Nat → Int32) (bests : Nat → Int32) (cows : Nat → Int32) (nf : Nat) (vrooms : Nat → Int32) (inv : Nat → Int32) (vsh : Nat → Int32) (nv : Nat) (ub : Bool) (vis : Nat → Int32) (rounds : Int32) (itk : Int32) (farm : Nat → Int32) (amount : Nat → Int32) (mark : Nat → Int32) (ways : Nat → Int32) (n : Nat) (nb : Nat) (thr : Int32) (j : Nat) (hj : j < n) (hn : n ≤ 100) (hsp : ¬ ways j < 10 → mark j = 120 → ¬ spM ways mark amount n j = 0) : mR l yX3_blameOf cX3_blameOf 9 (some .int) 2 47 D (kTy k) [.ref (a 0), .int (nI j)] (wMO k a (nI dy) rooms tanks bests cows (nI nf) vrooms inv vsh (nI nv) (kB ub) vis rounds itk farm amount mark ways (nI n) (nI nb) thr) (some (.int (blM ways mark amount n j))) := by
  refine mR.of (lv' := [(0, .ref (a 0)), (1, .int (nI j))]) (by decide) (Nat.le_of_ble_eq_true rfl) rfl ?_
  intro p e s m args below meth c E hr hlk
  refine k_aload_n E 0 rfl rfl dX3_blameOf_0 ?_
  refine k_get E inX3 0 rfl rfl 17 (by decide) q_692 rfl rfl dX3_blameOf_1 ?_
  refine k_iload_n E 1 rfl rfl dX3_blameOf_4 ?_
  refine k_iald E (j := j) 12 0 rfl rfl rfl (by omega) (by decide) dX3_blameOf_5 ?_
  refine k_bipush E (v := 10) (by decide) dX3_blameOf_6 ?_
  refine k_icmp_lt E (tgt := 22) (by decide) dX3_blameOf_8 (fun c8 => ?_) (fun c8 => ?_)
  · skip
    refine k_iconst E (v := 0) (by decide) dX3_blameOf_22 ?_
    exact kr_iret E hr hlk (by simp [blM, *]) dX3_blameOf_23
  · skip
    refine k_aload_n E 0 rfl rfl dX3_blameOf_11 ?_
    refine k_get E inX3 0 rfl rfl 16 (by decide) q_691 rfl rfl dX3_blameOf_12 ?_
    refine k_iload_n E 1 rfl rfl dX3_blameOf_15 ?_
    refine k_cald E (j := j) 11 1 rfl rfl rfl (by omega) (by decide) dX3_blameOf_16 ?_
    refine k_bipush E (v := 120) (by decide) dX3_blameOf_17 ?_
    refine k_icmp_eq E (tgt := 24) (by decide) dX3_blameOf_19 (fun c19 => ?_) (fun c19 => ?_)
    · skip
      refine k_aload_n E 0 rfl rfl dX3_blameOf_24 ?_
      refine k_get E inX3 0 rfl rfl 17 (by decide) q_692 rfl rfl dX3_blameOf_25 ?_
      refine k_iload_n E 1 rfl rfl dX3_blameOf_28 ?_
      refine k_iald E (j := j) 12 0 rfl rfl rfl (by omega) (by decide) dX3_blameOf_29 ?_
      refine k_bipush E (v := 10) (by decide) dX3_blameOf_30 ?_
      refine k_isub E dX3_blameOf_32 ?_
      refine k_istore_n (lv' := [(2, .int ((ways j) - 10)), (0, .ref (a 0)), (1, .int (nI j))]) E rfl (by decide) rfl dX3_blameOf_33 ?_
      refine k_aload_n E 1 rfl rfl dX3_blameOf_34 ?_
      refine k_iload_n E 0 rfl rfl dX3_blameOf_35 ?_
      refine k_callRV [.int ((ways j) - 10)] E (m_X3_lossOf l D k a dy rooms tanks bests cows nf vrooms inv vsh nv ub vis rounds itk farm amount mark ways n nb thr ((ways j) - 10) (by first | assumption | omega)) cf_X3_lossOf q_888 [0, 1, 2, 3, 4, 5, 6, 7, 8, 9, 10, 11, 12] rfl 0 rfl rfl rfl rfl ⟨by decide, by decide⟩ (Nat.le_of_ble_eq_true rfl) ⟨by decide, by decide⟩ dX3_blameOf_36 ?_
      refine k_steq (st' := [.int (losM ways mark amount ((ways j) - 10) n)]) rfl ?_
      refine k_istore_n (lv' := [(3, .int (losM ways mark amount ((ways j) - 10) n)), (2, .int ((ways j) - 10)), (0, .ref (a 0)), (1, .int (nI j))]) E rfl (by decide) rfl dX3_blameOf_39 ?_
      refine k_iconst E (v := 0) (by decide) dX3_blameOf_40 ?_
      refine k_istore (lv' := [(4, .int 0), (3, .int (losM ways mark amount ((ways j) - 10) n)), (2, .int ((ways j) - 10)), (0, .ref (a 0)), (1, .int (nI j))]) E (by decide) rfl dX3_blameOf_41 ?_
      refine k_iconst E (v := 0) (by decide) dX3_blameOf_43 ?_
      refine k_istore (lv' := [(5, .int 0), (4, .int 0), (3, .int (losM ways mark amount ((ways j) - 10) n)), (2, .int ((ways j) - 10)), (0, .ref (a 0)), (1, .int (nI j))]) E (by decide) rfl dX3_blameOf_44 ?_
      have L46 : ∀ (dn46 : Nat) (i : Nat) (z : Int32), i + dn46 = n → (z = sI (fun zi => decide (ways zi = ways j) && decide (mark zi = 120)) amount i) → kJ p l e (kRm 2 47) s m args below meth c (gR D s.heap) 9 0 0 (MQ below (kQr (some (.int (blM ways mark amount n j)))) args s 0 0 (fun _ => False)) (wMO k a (nI dy) rooms tanks bests cows (nI nf) vrooms inv vsh (nI nv) (kB ub) vis rounds itk farm amount mark ways (nI n) (nI nb) thr) 46 [(0, .ref (a 0)), (1, .int (nI j)), (2, .int (ways j - 10)), (3, .int (losM ways mark amount (ways j - 10) n)), (4, .int z), (5, .int (nI i))] [] := by
        intro dn46
        induction dn46 with
        | zero =>
          intro i z hd46 hz
          refine k_iload E 5 rfl dX3_blameOf_46 ?_
          refine k_aload_n E 0 rfl rfl dX3_blameOf_48 ?_
          refine k_get E inX3 0 rfl rfl 18 (by decide) q_693 rfl rfl dX3_blameOf_49 ?_
          refine k_icmp_ge E (tgt := 105) (by decide) dX3_blameOf_52 (fun c52 => ?_) (fun c52 => absurd ((not_congr (nI_leI (a := n) (b := i) (by omega) (by omega))).mp c52) (by omega))
          have c52 := (nI_leI (a := n) (b := i) (by omega) (by omega)).mp c52
          have hz9 : z = spM ways mark amount n j := by rw [hz, show i = n by omega]; rfl
          clear hz
          refine k_iload_n E 3 rfl rfl dX3_blameOf_105 ?_
          refine k_istore (lv' := [(5, .int (losM ways mark amount (ways j - 10) n)), (0, .ref (a 0)), (1, .int (nI j)), (2, .int (ways j - 10)), (3, .int (losM ways mark amount (ways j - 10) n)), (4, .int z)]) E (by decide) rfl dX3_blameOf_106 ?_
          refine k_iconst E (v := 0) (by decide) dX3_blameOf_108 ?_
          refine k_istore (lv' := [(6, .int 0), (5, .int (losM ways mark amount (ways j - 10) n)), (0, .ref (a 0)), (1, .int (nI j)), (2, .int (ways j - 10)), (3, .int (losM ways mark amount (ways j - 10) n)), (4, .int z)]) E (by decide) rfl dX3_blameOf_109 ?_
          refine k_iconst E (v := 0) (by decide) dX3_blameOf_111 ?_
          refine k_istore (lv' := [(7, .int 0), (6, .int 0), (5, .int (losM ways mark amount (ways j - 10) n)), (0, .ref (a 0)), (1, .int (nI j)), (2, .int (ways j - 10)), (3, .int (losM ways mark amount (ways j - 10) n)), (4, .int z)]) E (by decide) rfl dX3_blameOf_112 ?_
          have L114 : ∀ (dn114 : Nat) (i : Nat) (x : Int32) (y : Int32), i + dn114 = n → (x = lfM ways mark amount n j i) → (y = ahM ways mark j i) → kJ p l e (kRm 2 47) s m args below meth c (gR D s.heap) 9 0 0 (MQ below (kQr (some (.int (blM ways mark amount n j)))) args s 0 0 (fun _ => False)) (wMO k a (nI dy) rooms tanks bests cows (nI nf) vrooms inv vsh (nI nv) (kB ub) vis rounds itk farm amount mark ways (nI n) (nI nb) thr) 114 [(0, .ref (a 0)), (1, .int (nI j)), (3, .int (losM ways mark amount (ways j - 10) n)), (4, .int z), (5, .int x), (6, .int y), (7, .int (nI i))] [] := by
            intro dn114
            induction dn114 with
            | zero =>
              intro i x y hd114 hx hy
              refine k_iload E 6 rfl dX3_blameOf_114 ?_
              refine k_aload_n E 0 rfl rfl dX3_blameOf_116 ?_
              refine k_get E inX3 0 rfl rfl 18 (by decide) q_693 rfl rfl dX3_blameOf_117 ?_
              refine k_icmp_ge E (tgt := 211) (by decide) dX3_blameOf_120 (fun c120 => ?_) (fun c120 => absurd ((not_congr (nI_leI (a := n) (b := i) (by omega) (by omega))).mp c120) (by omega))
              have c120 := (nI_leI (a := n) (b := i) (by omega) (by omega)).mp c120
              have hl : x = lfM ways mark amount n j n := by rw [hx, show i = n by omega]
              have hq : y = ahM ways mark j n := by rw [hy, show i = n by omega]
              refine k_iload_n E 2 rfl rfl dX3_blameOf_211 ?_
              refine k_aload_n E 0 rfl rfl dX3_blameOf_212 ?_
              refine k_get E inX3 0 rfl rfl 15 (by decide) q_690 rfl rfl dX3_blameOf_213 ?_
              refine k_iload_n E 1 rfl rfl dX3_blameOf_216 ?_
              refine k_iald E (j := j) 10 0 rfl rfl rfl (by omega) (by decide) dX3_blameOf_217 ?_
              refine k_imul E dX3_blameOf_218 ?_
              refine k_iload E 3 rfl dX3_blameOf_219 ?_
              refine k_idiv E (by rw [hz9]; exact hsp c8 c19) dX3_blameOf_221 ?_
              refine k_iload E 5 rfl dX3_blameOf_222 ?_
              refine k_iload E 4 rfl dX3_blameOf_224 ?_
              refine k_icmp_ge E (tgt := 233) (by decide) dX3_blameOf_226 (fun c226 => ?_) (fun c226 => ?_)
              · skip
                refine k_iconst E (v := 0) (by decide) dX3_blameOf_233 ?_
                refine k_iadd E dX3_blameOf_234 ?_
                exact kr_iret E hr hlk (by rw [blM, if_neg (fun q => by rcases q with w | w; exact c8 w; exact w c19), ← hq, ← hl, ← hz9]; first | rw [if_pos (Int32.not_le.mp c226)] | rw [if_neg (Int32.not_lt.mpr c226)]) dX3_blameOf_235
              · skip
                refine k_iconst E (v := 1) (by decide) dX3_blameOf_229 ?_
                refine k_goto E (tgt := 234) (by decide) dX3_blameOf_230 ?_
                refine k_iadd E dX3_blameOf_234 ?_
                exact kr_iret E hr hlk (by rw [blM, if_neg (fun q => by rcases q with w | w; exact c8 w; exact w c19), ← hq, ← hl, ← hz9]; first | rw [if_pos (Int32.not_le.mp c226)] | rw [if_neg (Int32.not_lt.mpr c226)]) dX3_blameOf_235
            | succ dn114 ih114 =>
              intro i x y hd114 hx hy
              refine k_iload E 6 rfl dX3_blameOf_114 ?_
              refine k_aload_n E 0 rfl rfl dX3_blameOf_116 ?_
              refine k_get E inX3 0 rfl rfl 18 (by decide) q_693 rfl rfl dX3_blameOf_117 ?_
              refine k_icmp_ge E (tgt := 211) (by decide) dX3_blameOf_120 (fun c120 => absurd ((nI_leI (a := n) (b := i) (by omega) (by omega)).mp c120) (by omega)) (fun c120 => ?_)
              have c120 := (not_congr (nI_leI (a := n) (b := i) (by omega) (by omega))).mp c120
              refine k_aload_n E 0 rfl rfl dX3_blameOf_123 ?_
              refine k_get E inX3 0 rfl rfl 17 (by decide) q_692 rfl rfl dX3_blameOf_124 ?_
              refine k_iload E 6 rfl dX3_blameOf_127 ?_
              refine k_iald E (j := i) 12 0 rfl rfl rfl (by omega) (by decide) dX3_blameOf_129 ?_
              refine k_aload_n E 0 rfl rfl dX3_blameOf_130 ?_
              refine k_get E inX3 0 rfl rfl 17 (by decide) q_692 rfl rfl dX3_blameOf_131 ?_
              refine k_iload_n E 1 rfl rfl dX3_blameOf_134 ?_
              refine k_iald E (j := j) 12 0 rfl rfl rfl (by omega) (by decide) dX3_blameOf_135 ?_
              refine k_icmp_ne E (tgt := 155) (by decide) dX3_blameOf_136 (fun c136 => ?_) (fun c136 => ?_)
              · skip
                refine k_iconst E (v := 0) (by decide) dX3_blameOf_155 ?_
                refine k_istore (lv' := [(8, .int 0), (0, .ref (a 0)), (1, .int (nI j)), (3, .int (losM ways mark amount (ways j - 10) n)), (4, .int z), (5, .int x), (6, .int y), (7, .int (nI i))]) E (by decide) rfl dX3_blameOf_156 ?_
                refine k_iload E 5 rfl dX3_blameOf_158 ?_
                refine k_iload E 0 rfl dX3_blameOf_160 ?_
                refine k_if_eq E (tgt := 180) (by decide) dX3_blameOf_162 (fun _ => ?_) (fun h => absurd (by decide) h)
                refine k_iconst E (v := 0) (by decide) dX3_blameOf_180 ?_
                refine k_isub E dX3_blameOf_181 ?_
                refine k_istore (lv' := [(5, .int (x - 0)), (8, .int 0), (0, .ref (a 0)), (1, .int (nI j)), (3, .int (losM ways mark amount (ways j - 10) n)), (4, .int z), (6, .int y), (7, .int (nI i))]) E (by decide) rfl dX3_blameOf_182 ?_
                refine k_iload E 6 rfl dX3_blameOf_184 ?_
                refine k_iload E 1 rfl dX3_blameOf_186 ?_
                refine k_if_eq E (tgt := 201) (by decide) dX3_blameOf_188 (fun _ => ?_) (fun h => absurd (by decide) h)
                refine k_iconst E (v := 0) (by decide) dX3_blameOf_201 ?_
                refine k_iadd E dX3_blameOf_202 ?_
                refine k_istore (lv' := [(6, .int (y + 0)), (5, .int (x - 0)), (8, .int 0), (0, .ref (a 0)), (1, .int (nI j)), (3, .int (losM ways mark amount (ways j - 10) n)), (4, .int z), (7, .int (nI i))]) E (by decide) rfl dX3_blameOf_203 ?_
                refine k_iinc (q := 7) (v := nI (i + 1)) (lv' := [(7, .int (nI (i + 1))), (6, .int (y + 0)), (5, .int (x - 0)), (8, .int 0), (0, .ref (a 0)), (1, .int (nI j)), (3, .int (losM ways mark amount (ways j - 10) n)), (4, .int z)]) E rfl (nI_inc _) (by decide) rfl dX3_blameOf_205 ?_
                refine k_goto E (tgt := 114) (by decide) dX3_blameOf_208 ?_
                refine k_lv [4, 5, 6, 7, 2, 1, 0] rfl ?_
                exact ih114 (i + 1) (x - 0) (y + 0) (by omega) (by rw [hx]; simp [lfM, sI, i32_sss, *]) (by rw [hy]; simp [ahM, sI, *])
              · skip
                refine k_aload_n E 0 rfl rfl dX3_blameOf_139 ?_
                refine k_get E inX3 0 rfl rfl 16 (by decide) q_691 rfl rfl dX3_blameOf_140 ?_
                refine k_iload E 6 rfl dX3_blameOf_143 ?_
                refine k_cald E (j := i) 11 1 rfl rfl rfl (by omega) (by decide) dX3_blameOf_145 ?_
                refine k_bipush E (v := 120) (by decide) dX3_blameOf_146 ?_
                refine k_icmp_ne E (tgt := 155) (by decide) dX3_blameOf_148 (fun c148 => ?_) (fun c148 => ?_)
                · skip
                  refine k_iconst E (v := 0) (by decide) dX3_blameOf_155 ?_
                  refine k_istore (lv' := [(8, .int 0), (0, .ref (a 0)), (1, .int (nI j)), (3, .int (losM ways mark amount (ways j - 10) n)), (4, .int z), (5, .int x), (6, .int y), (7, .int (nI i))]) E (by decide) rfl dX3_blameOf_156 ?_
                  refine k_iload E 5 rfl dX3_blameOf_158 ?_
                  refine k_iload E 0 rfl dX3_blameOf_160 ?_
                  refine k_if_eq E (tgt := 180) (by decide) dX3_blameOf_162 (fun _ => ?_) (fun h => absurd (by decide) h)
                  refine k_iconst E (v := 0) (by decide) dX3_blameOf_180 ?_
                  refine k_isub E dX3_blameOf_181 ?_
                  refine k_istore (lv' := [(5, .int (x - 0)), (8, .int 0), (0, .ref (a 0)), (1, .int (nI j)), (3, .int (losM ways mark amount (ways j - 10) n)), (4, .int z), (6, .int y), (7, .int (nI i))]) E (by decide) rfl dX3_blameOf_182 ?_
                  refine k_iload E 6 rfl dX3_blameOf_184 ?_
                  refine k_iload E 1 rfl dX3_blameOf_186 ?_
                  refine k_if_eq E (tgt := 201) (by decide) dX3_blameOf_188 (fun _ => ?_) (fun h => absurd (by decide) h)
                  refine k_iconst E (v := 0) (by decide) dX3_blameOf_201 ?_
                  refine k_iadd E dX3_blameOf_202 ?_
                  refine k_istore (lv' := [(6, .int (y + 0)), (5, .int (x - 0)), (8, .int 0), (0, .ref (a 0)), (1, .int (nI j)), (3, .int (losM ways mark amount (ways j - 10) n)), (4, .int z), (7, .int (nI i))]) E (by decide) rfl dX3_blameOf_203 ?_
                  refine k_iinc (q := 7) (v := nI (i + 1)) (lv' := [(7, .int (nI (i + 1))), (6, .int (y + 0)), (5, .int (x - 0)), (8, .int 0), (0, .ref (a 0)), (1, .int (nI j)), (3, .int (losM ways mark amount (ways j - 10) n)), (4, .int z)]) E rfl (nI_inc _) (by decide) rfl dX3_blameOf_205 ?_
                  refine k_goto E (tgt := 114) (by decide) dX3_blameOf_208 ?_
                  refine k_lv [4, 5, 6, 7, 2, 1, 0] rfl ?_
                  exact ih114 (i + 1) (x - 0) (y + 0) (by omega) (by rw [hx]; simp [lfM, sI, i32_sss, *]) (by rw [hy]; simp [ahM, sI, *])
                · skip
                  refine k_iconst E (v := 1) (by decide) dX3_blameOf_151 ?_
                  refine k_goto E (tgt := 156) (by decide) dX3_blameOf_152 ?_
                  refine k_istore (lv' := [(8, .int 1), (0, .ref (a 0)), (1, .int (nI j)), (3, .int (losM ways mark amount (ways j - 10) n)), (4, .int z), (5, .int x), (6, .int y), (7, .int (nI i))]) E (by decide) rfl dX3_blameOf_156 ?_
                  refine k_iload E 5 rfl dX3_blameOf_158 ?_
                  refine k_iload E 0 rfl dX3_blameOf_160 ?_
                  refine k_if_eq E (tgt := 180) (by decide) dX3_blameOf_162 (fun h => absurd h (by decide)) (fun _ => ?_)
                  refine k_iload_n E 3 rfl rfl dX3_blameOf_165 ?_
                  refine k_aload_n E 1 rfl rfl dX3_blameOf_166 ?_
                  refine k_get E inX3 0 rfl rfl 15 (by decide) q_690 rfl rfl dX3_blameOf_167 ?_
                  refine k_iload E 7 rfl dX3_blameOf_170 ?_
                  refine k_iald E (j := i) 10 0 rfl rfl rfl (by omega) (by decide) dX3_blameOf_172 ?_
                  refine k_imul E dX3_blameOf_173 ?_
                  refine k_iload E 4 rfl dX3_blameOf_174 ?_
                  refine k_idiv E (by rw [hz9]; exact hsp c8 c19) dX3_blameOf_176 ?_
                  refine k_goto E (tgt := 181) (by decide) dX3_blameOf_177 ?_
                  refine k_isub E dX3_blameOf_181 ?_
                  refine k_istore (lv' := [(5, .int (x - (((losM ways mark amount (ways j - 10) n) * (amount i)) / z))), (8, .int 1), (0, .ref (a 0)), (1, .int (nI j)), (3, .int (losM ways mark amount (ways j - 10) n)), (4, .int z), (6, .int y), (7, .int (nI i))]) E (by decide) rfl dX3_blameOf_182 ?_
                  refine k_iload E 6 rfl dX3_blameOf_184 ?_
                  refine k_iload E 1 rfl dX3_blameOf_186 ?_
                  refine k_if_eq E (tgt := 201) (by decide) dX3_blameOf_188 (fun h => absurd h (by decide)) (fun _ => ?_)
                  refine k_iload E 7 rfl dX3_blameOf_191 ?_
                  refine k_iload_n E 3 rfl rfl dX3_blameOf_193 ?_
                  refine k_icmp_ge E (tgt := 201) (by decide) dX3_blameOf_194 (fun c194 => ?_) (fun c194 => ?_)
                  · skip
                    have c194 := (nI_leI (a := j) (b := i) (by omega) (by omega)).mp c194
                    refine k_iconst E (v := 0) (by decide) dX3_blameOf_201 ?_
                    refine k_iadd E dX3_blameOf_202 ?_
                    refine k_istore (lv' := [(6, .int (y + 0)), (5, .int (x - (((losM ways mark amount (ways j - 10) n) * (amount i)) / z))), (8, .int 1), (0, .ref (a 0)), (1, .int (nI j)), (3, .int (losM ways mark amount (ways j - 10) n)), (4, .int z), (7, .int (nI i))]) E (by decide) rfl dX3_blameOf_203 ?_
                    refine k_iinc (q := 7) (v := nI (i + 1)) (lv' := [(7, .int (nI (i + 1))), (6, .int (y + 0)), (5, .int (x - (((losM ways mark amount (ways j - 10) n) * (amount i)) / z))), (8, .int 1), (0, .ref (a 0)), (1, .int (nI j)), (3, .int (losM ways mark amount (ways j - 10) n)), (4, .int z)]) E rfl (nI_inc _) (by decide) rfl dX3_blameOf_205 ?_
                    refine k_goto E (tgt := 114) (by decide) dX3_blameOf_208 ?_
                    refine k_lv [4, 5, 6, 7, 2, 1, 0] rfl ?_
                    exact ih114 (i + 1) (x - (((losM ways mark amount (ways j - 10) n) * (amount i)) / z)) (y + 0) (by omega) (by rw [hx]; simp [lfM, sI, i32_sss, *]) (by rw [hy]; simp [ahM, sI, *])
                  · skip
                    have c194 := (not_congr (nI_leI (a := j) (b := i) (by omega) (by omega))).mp c194
                    refine k_iconst E (v := 1) (by decide) dX3_blameOf_197 ?_
                    refine k_goto E (tgt := 202) (by decide) dX3_blameOf_198 ?_
                    refine k_iadd E dX3_blameOf_202 ?_
                    refine k_istore (lv' := [(6, .int (y + 1)), (5, .int (x - (((losM ways mark amount (ways j - 10) n) * (amount i)) / z))), (8, .int 1), (0, .ref (a 0)), (1, .int (nI j)), (3, .int (losM ways mark amount (ways j - 10) n)), (4, .int z), (7, .int (nI i))]) E (by decide) rfl dX3_blameOf_203 ?_
                    refine k_iinc (q := 7) (v := nI (i + 1)) (lv' := [(7, .int (nI (i + 1))), (6, .int (y + 1)), (5, .int (x - (((losM ways mark amount (ways j - 10) n) * (amount i)) / z))), (8, .int 1), (0, .ref (a 0)), (1, .int (nI j)), (3, .int (losM ways mark amount (ways j - 10) n)), (4, .int z)]) E rfl (nI_inc _) (by decide) rfl dX3_blameOf_205 ?_
                    refine k_goto E (tgt := 114) (by decide) dX3_blameOf_208 ?_
                    refine k_lv [4, 5, 6, 7, 2, 1, 0] rfl ?_
                    exact ih114 (i + 1) (x - (((losM ways mark amount (ways j - 10) n) * (amount i)) / z)) (y + 1) (by omega) (by rw [hx]; simp [lfM, sI, i32_sss, *]) (by rw [hy]; simp [ahM, sI, *])
          refine k_lv [3, 4, 6, 7, 2, 1, 0] rfl ?_
          exact L114 (n - 0) 0 (losM ways mark amount (ways j - 10) n) 0 (by omega) (by simp [lfM, sI]) rfl
        | succ dn46 ih46 =>
          intro i z hd46 hz
          refine k_iload E 5 rfl dX3_blameOf_46 ?_
          refine k_aload_n E 0 rfl rfl dX3_blameOf_48 ?_
          refine k_get E inX3 0 rfl rfl 18 (by decide) q_693 rfl rfl dX3_blameOf_49 ?_
          refine k_icmp_ge E (tgt := 105) (by decide) dX3_blameOf_52 (fun c52 => absurd ((nI_leI (a := n) (b := i) (by omega) (by omega)).mp c52) (by omega)) (fun c52 => ?_)
          have c52 := (not_congr (nI_leI (a := n) (b := i) (by omega) (by omega))).mp c52
          refine k_iload E 4 rfl dX3_blameOf_55 ?_
          refine k_aload_n E 0 rfl rfl dX3_blameOf_57 ?_
          refine k_get E inX3 0 rfl rfl 17 (by decide) q_692 rfl rfl dX3_blameOf_58 ?_
          refine k_iload E 5 rfl dX3_blameOf_61 ?_
          refine k_iald E (j := i) 12 0 rfl rfl rfl (by omega) (by decide) dX3_blameOf_63 ?_
          refine k_aload_n E 0 rfl rfl dX3_blameOf_64 ?_
          refine k_get E inX3 0 rfl rfl 17 (by decide) q_692 rfl rfl dX3_blameOf_65 ?_
          refine k_iload_n E 1 rfl rfl dX3_blameOf_68 ?_
          refine k_iald E (j := j) 12 0 rfl rfl rfl (by omega) (by decide) dX3_blameOf_69 ?_
          refine k_icmp_ne E (tgt := 95) (by decide) dX3_blameOf_70 (fun c70 => ?_) (fun c70 => ?_)
          · skip
            refine k_iconst E (v := 0) (by decide) dX3_blameOf_95 ?_
            refine k_iadd E dX3_blameOf_96 ?_
            refine k_istore (lv' := [(4, .int (z + 0)), (0, .ref (a 0)), (1, .int (nI j)), (2, .int (ways j - 10)), (3, .int (losM ways mark amount (ways j - 10) n)), (5, .int (nI i))]) E (by decide) rfl dX3_blameOf_97 ?_
            refine k_iinc (q := 5) (v := nI (i + 1)) (lv' := [(5, .int (nI (i + 1))), (4, .int (z + 0)), (0, .ref (a 0)), (1, .int (nI j)), (2, .int (ways j - 10)), (3, .int (losM ways mark amount (ways j - 10) n))]) E rfl (nI_inc _) (by decide) rfl dX3_blameOf_99 ?_
            refine k_goto E (tgt := 46) (by decide) dX3_blameOf_102 ?_
            refine k_lv [2, 3, 4, 5, 1, 0] rfl ?_
            exact ih46 (i + 1) (z + 0) (by omega) (by simp [sI, *])
          · skip
            refine k_aload_n E 0 rfl rfl dX3_blameOf_73 ?_
            refine k_get E inX3 0 rfl rfl 16 (by decide) q_691 rfl rfl dX3_blameOf_74 ?_
            refine k_iload E 5 rfl dX3_blameOf_77 ?_
            refine k_cald E (j := i) 11 1 rfl rfl rfl (by omega) (by decide) dX3_blameOf_79 ?_
            refine k_bipush E (v := 120) (by decide) dX3_blameOf_80 ?_
            refine k_icmp_ne E (tgt := 95) (by decide) dX3_blameOf_82 (fun c82 => ?_) (fun c82 => ?_)
            · skip
              refine k_iconst E (v := 0) (by decide) dX3_blameOf_95 ?_
              refine k_iadd E dX3_blameOf_96 ?_
              refine k_istore (lv' := [(4, .int (z + 0)), (0, .ref (a 0)), (1, .int (nI j)), (2, .int (ways j - 10)), (3, .int (losM ways mark amount (ways j - 10) n)), (5, .int (nI i))]) E (by decide) rfl dX3_blameOf_97 ?_
              refine k_iinc (q := 5) (v := nI (i + 1)) (lv' := [(5, .int (nI (i + 1))), (4, .int (z + 0)), (0, .ref (a 0)), (1, .int (nI j)), (2, .int (ways j - 10)), (3, .int (losM ways mark amount (ways j - 10) n))]) E rfl (nI_inc _) (by decide) rfl dX3_blameOf_99 ?_
              refine k_goto E (tgt := 46) (by decide) dX3_blameOf_102 ?_
              refine k_lv [2, 3, 4, 5, 1, 0] rfl ?_
              exact ih46 (i + 1) (z + 0) (by omega) (by simp [sI, *])
            · skip
              refine k_aload_n E 0 rfl rfl dX3_blameOf_85 ?_
              refine k_get E inX3 0 rfl rfl 15 (by decide) q_690 rfl rfl dX3_blameOf_86 ?_
              refine k_iload E 5 rfl dX3_blameOf_89 ?_
              refine k_iald E (j := i) 10 0 rfl rfl rfl (by omega) (by decide) dX3_blameOf_91 ?_
              refine k_goto E (tgt := 96) (by decide) dX3_blameOf_92 ?_
              refine k_iadd E dX3_blameOf_96 ?_
              refine k_istore (lv' := [(4, .int (z + (amount i))), (0, .ref (a 0)), (1, .int (nI j)), (2, .int (ways j - 10)), (3, .int (losM ways mark amount (ways j - 10) n)), (5, .int (nI i))]) E (by decide) rfl dX3_blameOf_97 ?_
              refine k_iinc (q := 5) (v := nI (i + 1)) (lv' := [(5, .int (nI (i + 1))), (4, .int (z + (amount i))), (0, .ref (a 0)), (1, .int (nI j)), (2, .int (ways j - 10)), (3, .int (losM ways mark amount (ways j - 10) n))]) E rfl (nI_inc _) (by decide) rfl dX3_blameOf_99 ?_
              refine k_goto E (tgt := 46) (by decide) dX3_blameOf_102 ?_
              refine k_lv [2, 3, 4, 5, 1, 0] rfl ?_
              exact ih46 (i + 1) (z + (amount i)) (by omega) (by simp [sI, *])
      refine k_lv [4, 5, 3, 2, 1, 0] rfl ?_
      exact L46 (n - 0) 0 0 (by omega) rfl
    · skip
      refine k_iconst E (v := 0) (by decide) dX3_blameOf_22 ?_
      exact kr_iret E hr hlk (by simp [blM, *]) dX3_blameOf_23
set_option maxRecDepth 100000 in
set_option maxHeartbeats 4000000 in
theorem m_X3_counts (l : Launch) (D : va_G) (k : Nat → ClassId) (a : Nat → Nat) (dy : Nat) (rooms : Nat → Int32) (tanks : Nat → Int32) (bests : Nat → Int32) (cows : Nat → Int32) (nf : Nat) (vrooms : Nat → Int32) (inv : Nat → Int32) (vsh : Nat → Int32) (nv : Nat) (ub : Bool) (vis : Nat → Int32) (rounds : Int32) (itk : Int32) (farm : Nat → Int32) (amount : Nat → Int32) (mark : Nat → Int32) (ways : Nat → Int32) (n : Nat) (nb : Nat) (thr : Int32) (j : Nat) (fa : Int32) (hj : j < 100) (hn : n ≤ 100) : mR l yX3_counts cX3_counts 3 (some .boolean) 2 45 D (kTy k) [.ref (a 0), .int (nI j), .int fa] (wMO k a (nI dy) rooms tanks bests cows (nI nf) vrooms inv vsh (nI nv) (kB ub) vis rounds itk farm amount mark ways (nI n) (nI nb) thr) (some (.int (kB (cnM farm ways mark fa n j)))) := by
  refine mR.of (lv' := [(0, .ref (a 0)), (1, .int (nI j)), (2, .int fa)]) (by decide) (Nat.le_of_ble_eq_true rfl) rfl ?_
  intro p e s m args below meth c E hr hlk
  refine k_aload_n E 0 rfl rfl dX3_counts_0 ?_
  refine k_get E inX3 0 rfl rfl 14 (by decide) q_689 rfl rfl dX3_counts_1 ?_
  refine k_iload_n E 1 rfl rfl dX3_counts_4 ?_
  refine k_iald E (j := j) 9 0 rfl rfl rfl (by omega) (by decide) dX3_counts_5 ?_
  refine k_iload_n E 2 rfl rfl dX3_counts_6 ?_
  refine k_icmp_ne E (tgt := 41) (by decide) dX3_counts_7 (fun c7 => ?_) (fun c7 => ?_)
  · skip
    refine k_iconst E (v := 0) (by decide) dX3_counts_41 ?_
    exact kr_zret E hr hlk rfl (by simp [cnM, kB, *]) dX3_counts_42
  · skip
    refine k_aload_n E 0 rfl rfl dX3_counts_10 ?_
    refine k_get E inX3 0 rfl rfl 17 (by decide) q_692 rfl rfl dX3_counts_11 ?_
    refine k_iload_n E 1 rfl rfl dX3_counts_14 ?_
    refine k_iald E (j := j) 12 0 rfl rfl rfl (by omega) (by decide) dX3_counts_15 ?_
    refine k_bipush E (v := 10) (by decide) dX3_counts_16 ?_
    refine k_icmp_lt E (tgt := 41) (by decide) dX3_counts_18 (fun c18 => ?_) (fun c18 => ?_)
    · skip
      refine k_iconst E (v := 0) (by decide) dX3_counts_41 ?_
      exact kr_zret E hr hlk rfl (by simp [cnM, kB, *]) dX3_counts_42
    · skip
      refine k_aload_n E 0 rfl rfl dX3_counts_21 ?_
      refine k_aload_n E 0 rfl rfl dX3_counts_22 ?_
      refine k_get E inX3 0 rfl rfl 17 (by decide) q_692 rfl rfl dX3_counts_23 ?_
      refine k_iload_n E 1 rfl rfl dX3_counts_26 ?_
      refine k_iald E (j := j) 12 0 rfl rfl rfl (by omega) (by decide) dX3_counts_27 ?_
      refine k_bipush E (v := 10) (by decide) dX3_counts_28 ?_
      refine k_isub E dX3_counts_30 ?_
      refine k_callRV [.int ((ways j) - 10)] E (m_X3_isGraded l D k a dy rooms tanks bests cows nf vrooms inv vsh nv ub vis rounds itk farm amount mark ways n nb thr ((ways j) - 10) (by first | assumption | omega)) cf_X3_isGraded q_872 [0, 1, 2, 3, 4, 5, 6, 7, 8, 9, 10, 11, 12] rfl 0 rfl rfl rfl rfl ⟨by decide, by decide⟩ (Nat.le_of_ble_eq_true rfl) ⟨by decide, by decide⟩ dX3_counts_31 ?_
      refine k_steq (st' := [.int (kB (!hsB ways mark ((ways j) - 10) 45 n))]) rfl ?_
      refine k_if_eq E (tgt := 41) (by decide) dX3_counts_34 (fun c34 => ?_) (fun c34 => ?_)
      · skip
        have c34 := kB_f c34
        refine k_iconst E (v := 0) (by decide) dX3_counts_41 ?_
        exact kr_zret E hr hlk rfl (by simp [cnM, kB, *]) dX3_counts_42
      · skip
        have c34 := kB_t c34
        refine k_iconst E (v := 1) (by decide) dX3_counts_37 ?_
        refine k_goto E (tgt := 42) (by decide) dX3_counts_38 ?_
        exact kr_zret E hr hlk rfl (by simp [cnM, kB, *]) dX3_counts_42
set_option maxRecDepth 100000 in
set_option maxHeartbeats 4000000 in
theorem m_X3_worth (l : Launch) (D : va_G) (k : Nat → ClassId) (a : Nat → Nat) (dy : Nat) (rooms : Nat → Int32) (tanks : Nat → Int32) (bests : Nat → Int32) (cows : Nat → Int32) (nf : Nat) (vrooms : Nat → Int32) (inv : Nat → Int32) (vsh : Nat → Int32) (nv : Nat) (ub : Bool) (vis : Nat → Int32) (rounds : Int32) (itk : Int32) (farm : Nat → Int32) (amount : Nat → Int32) (mark : Nat → Int32) (ways : Nat → Int32) (n : Nat) (nb : Nat) (thr : Int32) (j : Nat) (hj : j < nb) (hnb : nb ≤ 20) (hn : n ≤ 100) (hg : hsB ways mark (nI j) 45 n = false) : mW l yX3_worth cX3_worth 4 (some .int) 2 46 0 0 D (kTy k) [.ref (a 0), .int (nI j)] (wMO k a (nI dy) rooms tanks bests cows (nI nf) vrooms inv vsh (nI nv) (kB ub) vis rounds itk farm amount mark ways (nI n) (nI nb) thr) (some (.int (sI (fun zi => decide (ways zi = 10 + nI j)) (fun zi => payM ways mark amount n zi) n))) (wMO k a (nI dy) rooms tanks bests cows (nI nf) vrooms inv vsh (nI nv) (kB ub) vis rounds itk farm amount mark ways (nI n) (nI nb) 0) := by
  refine mW.of (lv' := [(0, .ref (a 0)), (1, .int (nI j))]) (by decide) (Nat.le_of_ble_eq_true rfl) rfl ?_
  intro p e s m args below meth c E hr hlk hm hA
  refine k_aload_n E 0 rfl rfl dX3_worth_0 ?_
  refine k_aload_n E 0 rfl rfl dX3_worth_1 ?_
  refine k_iload_n E 1 rfl rfl dX3_worth_2 ?_
  refine k_callRV [.int (nI j)] E (m_X3_isBatch l D k a dy rooms tanks bests cows nf vrooms inv vsh nv ub vis rounds itk farm amount mark ways n nb thr (nI j)) cf_X3_isBatch q_856 [0, 1, 2, 3, 4, 5, 6, 7, 8, 9, 10, 11, 12] rfl 0 rfl rfl rfl rfl ⟨by decide, by decide⟩ (Nat.le_of_ble_eq_true rfl) ⟨by decide, by decide⟩ dX3_worth_3 ?_
  refine k_steq (st' := [.int (kB (isR (nI j) nb)), .ref (a 0)]) rfl ?_
  refine k_if_ne E (tgt := 13) (by decide) dX3_worth_6 (fun c6 => ?_) (fun c6 => absurd (kB_f c6) (by first | (rw [isR_t hj (by omega)]; decide) | (rw [show inL _ _ _ = true from isR_t hj (by omega)]; decide)))
  have c6 := kB_t c6
  refine k_aload_n E 0 rfl rfl dX3_worth_13 ?_
  refine k_iload_n E 1 rfl rfl dX3_worth_14 ?_
  refine k_callRV [.int (nI j)] E (m_X3_isGraded l D k a dy rooms tanks bests cows nf vrooms inv vsh nv ub vis rounds itk farm amount mark ways n nb thr (nI j) (by first | assumption | omega)) cf_X3_isGraded q_872 [0, 1, 2, 3, 4, 5, 6, 7, 8, 9, 10, 11, 12] rfl 0 rfl rfl rfl rfl ⟨by decide, by decide⟩ (Nat.le_of_ble_eq_true rfl) ⟨by decide, by decide⟩ dX3_worth_15 ?_
  refine k_steq (st' := [.int (kB (!hsB ways mark (nI j) 45 n)), .ref (a 0)]) rfl ?_
  refine k_if_ne E (tgt := 25) (by decide) dX3_worth_18 (fun c18 => ?_) (fun c18 => absurd (kB_f c18) (by rw [hg]; decide))
  have c18 := kB_t c18
  refine k_iconst E (v := 0) (by decide) dX3_worth_25 ?_
  refine k_put (ws' := (wMO k a (nI dy) rooms tanks bests cows (nI nf) vrooms inv vsh (nI nv) (kB ub) vis rounds itk farm amount mark ways (nI n) (nI nb) 0)) E inX3 tyX3 tyX3_ok nmX3 0 rfl rfl 20 (by decide) q_695 rfl rfl rfl rfl (Nat.le_of_ble_eq_true rfl) rfl dX3_worth_26 ?_
  refine k_aload_n E 0 rfl rfl dX3_worth_29 ?_
  refine k_get E inX3 0 rfl rfl 20 (by decide) q_695 rfl rfl dX3_worth_30 ?_
  refine k_if_ne E (tgt := 40) (by decide) dX3_worth_33 (fun h => absurd (by decide) h) (fun _ => ?_)
  refine k_iconst E (v := 0) (by decide) dX3_worth_36 ?_
  refine k_goto E (tgt := 41) (by decide) dX3_worth_37 ?_
  refine k_istore_n (lv' := [(2, .int 0), (0, .ref (a 0)), (1, .int (nI j))]) E rfl (by decide) rfl dX3_worth_41 ?_
  refine k_iconst E (v := 0) (by decide) dX3_worth_42 ?_
  refine k_istore_n (lv' := [(3, .int 0), (2, .int 0), (0, .ref (a 0)), (1, .int (nI j))]) E rfl (by decide) rfl dX3_worth_43 ?_
  have L44 : ∀ (dn44 : Nat) (i : Nat) (x : Int32), i + dn44 = n → (x = sI (fun zi => decide (ways zi = 10 + nI j)) (fun zi => payM ways mark amount n zi) i) → kJ p l e (kRmc 2 46 0 0) s m args below meth c (gW D (va_A (wMO k a (nI dy) rooms tanks bests cows (nI nf) vrooms inv vsh (nI nv) (kB ub) vis rounds itk farm amount mark ways (nI n) (nI nb) thr) s.heap.size) s.heap) 4 0 0 (MQ below (kQw (some (.int (sI (fun zi => decide (ways zi = 10 + nI j)) (fun zi => payM ways mark amount n zi) n))) D (wMO k a (nI dy) rooms tanks bests cows (nI nf) vrooms inv vsh (nI nv) (kB ub) vis rounds itk farm amount mark ways (nI n) (nI nb) thr) (wMO k a (nI dy) rooms tanks bests cows (nI nf) vrooms inv vsh (nI nv) (kB ub) vis rounds itk farm amount mark ways (nI n) (nI nb) 0) s.heap.size) args s 0 0 (va_A (wMO k a (nI dy) rooms tanks bests cows (nI nf) vrooms inv vsh (nI nv) (kB ub) vis rounds itk farm amount mark ways (nI n) (nI nb) thr) s.heap.size)) (wMO k a (nI dy) rooms tanks bests cows (nI nf) vrooms inv vsh (nI nv) (kB ub) vis rounds itk farm amount mark ways (nI n) (nI nb) 0) 44 [(0, .ref (a 0)), (1, .int (nI j)), (2, .int x), (3, .int (nI i))] [] := by
    intro dn44
    induction dn44 with
    | zero =>
      intro i x hd44 hx
      refine k_iload_n E 3 rfl rfl dX3_worth_44 ?_
      refine k_aload_n E 0 rfl rfl dX3_worth_45 ?_
      refine k_get E inX3 0 rfl rfl 18 (by decide) q_693 rfl rfl dX3_worth_46 ?_
      refine k_icmp_ge E (tgt := 90) (by decide) dX3_worth_49 (fun c49 => ?_) (fun c49 => absurd ((not_congr (nI_leI (a := n) (b := i) (by omega) (by omega))).mp c49) (by omega))
      have c49 := (nI_leI (a := n) (b := i) (by omega) (by omega)).mp c49
      refine k_iload_n E 2 rfl rfl dX3_worth_90 ?_
      exact kw_iret E hr hlk (by rw [hx, show i = n by omega]) rfl (by decide) (by decide) dX3_worth_91
    | succ dn44 ih44 =>
      intro i x hd44 hx
      refine k_iload_n E 3 rfl rfl dX3_worth_44 ?_
      refine k_aload_n E 0 rfl rfl dX3_worth_45 ?_
      refine k_get E inX3 0 rfl rfl 18 (by decide) q_693 rfl rfl dX3_worth_46 ?_
      refine k_icmp_ge E (tgt := 90) (by decide) dX3_worth_49 (fun c49 => absurd ((nI_leI (a := n) (b := i) (by omega) (by omega)).mp c49) (by omega)) (fun c49 => ?_)
      have c49 := (not_congr (nI_leI (a := n) (b := i) (by omega) (by omega))).mp c49
      refine k_aload_n E 0 rfl rfl dX3_worth_52 ?_
      refine k_get E inX3 0 rfl rfl 20 (by decide) q_695 rfl rfl dX3_worth_53 ?_
      refine k_if_ne E (tgt := 90) (by decide) dX3_worth_56 (fun h => absurd (by decide) h) (fun _ => ?_)
      refine k_iload_n E 2 rfl rfl dX3_worth_59 ?_
      refine k_aload_n E 0 rfl rfl dX3_worth_60 ?_
      refine k_get E inX3 0 rfl rfl 17 (by decide) q_692 rfl rfl dX3_worth_61 ?_
      refine k_iload_n E 3 rfl rfl dX3_worth_64 ?_
      refine k_iald E (j := i) 12 0 rfl rfl rfl (by omega) (by decide) dX3_worth_65 ?_
      refine k_bipush E (v := 10) (by decide) dX3_worth_66 ?_
      refine k_iload_n E 1 rfl rfl dX3_worth_68 ?_
      refine k_iadd E dX3_worth_69 ?_
      refine k_icmp_ne E (tgt := 81) (by decide) dX3_worth_70 (fun c70 => ?_) (fun c70 => ?_)
      · skip
        refine k_iconst E (v := 0) (by decide) dX3_worth_81 ?_
        refine k_iadd E dX3_worth_82 ?_
        refine k_istore_n (lv' := [(2, .int (x + 0)), (0, .ref (a 0)), (1, .int (nI j)), (3, .int (nI i))]) E rfl (by decide) rfl dX3_worth_83 ?_
        refine k_iinc (q := 3) (v := nI (i + 1)) (lv' := [(3, .int (nI (i + 1))), (2, .int (x + 0)), (0, .ref (a 0)), (1, .int (nI j))]) E rfl (nI_inc _) (by decide) rfl dX3_worth_84 ?_
        refine k_goto E (tgt := 44) (by decide) dX3_worth_87 ?_
        refine k_lv [2, 3, 1, 0] rfl ?_
        exact ih44 (i + 1) (x + 0) (by omega) (by simp [sI, *])
      · skip
        refine k_aload_n E 0 rfl rfl dX3_worth_73 ?_
        refine k_iload_n E 3 rfl rfl dX3_worth_74 ?_
        refine k_callRV [.int (nI i)] E (m_X3_payOf l D k a dy rooms tanks bests cows nf vrooms inv vsh nv ub vis rounds itk farm amount mark ways n nb 0 i (by first | assumption | omega) (by first | assumption | omega)) cf_X3_payOf q_876 [0, 1, 2, 3, 4, 5, 6, 7, 8, 9, 10, 11, 12] rfl 0 rfl rfl rfl rfl ⟨by decide, by decide⟩ (Nat.le_of_ble_eq_true rfl) ⟨by decide, by decide⟩ dX3_worth_75 ?_
        refine k_steq (st' := [.int (payM ways mark amount n i), .int x]) rfl ?_
        refine k_goto E (tgt := 82) (by decide) dX3_worth_78 ?_
        refine k_iadd E dX3_worth_82 ?_
        refine k_istore_n (lv' := [(2, .int (x + (payM ways mark amount n i))), (0, .ref (a 0)), (1, .int (nI j)), (3, .int (nI i))]) E rfl (by decide) rfl dX3_worth_83 ?_
        refine k_iinc (q := 3) (v := nI (i + 1)) (lv' := [(3, .int (nI (i + 1))), (2, .int (x + (payM ways mark amount n i))), (0, .ref (a 0)), (1, .int (nI j))]) E rfl (nI_inc _) (by decide) rfl dX3_worth_84 ?_
        refine k_goto E (tgt := 44) (by decide) dX3_worth_87 ?_
        refine k_lv [2, 3, 1, 0] rfl ?_
        exact ih44 (i + 1) (x + (payM ways mark amount n i)) (by omega) (by simp [sI, *])
  refine k_lv [2, 3, 1, 0] rfl ?_
  exact L44 (n - 0) 0 0 (by omega) rfl
set_option maxRecDepth 100000 in
set_option maxHeartbeats 4000000 in
theorem m_X3_worth_i (l : Launch) (D : va_G) (k : Nat → ClassId) (a : Nat → Nat) (dy : Nat) (rooms : Nat → Int32) (tanks : Nat → Int32) (bests : Nat → Int32) (cows : Nat → Int32) (nf : Nat) (vrooms : Nat → Int32) (inv : Nat → Int32) (vsh : Nat → Int32) (nv : Nat) (ub : Bool) (vis : Nat → Int32) (rounds : Int32) (itk : Int32) (farm : Nat → Int32) (amount : Nat → Int32) (mark : Nat → Int32) (ways : Nat → Int32) (n : Nat) (nb : Nat) (thr : Int32) (fa : Int32) (hb : fa < 0 ∨ nI nb ≤ fa) (hnb : nb ≤ 20) (hn : n ≤ 100) : mW l yX3_worth cX3_worth 4 (some .int) 2 46 0 0 D (kTy k) [.ref (a 0), .int fa] (wMO k a (nI dy) rooms tanks bests cows (nI nf) vrooms inv vsh (nI nv) (kB ub) vis rounds itk farm amount mark ways (nI n) (nI nb) thr) (some (.int (-1))) (wMO k a (nI dy) rooms tanks bests cows (nI nf) vrooms inv vsh (nI nv) (kB ub) vis rounds itk farm amount mark ways (nI n) (nI nb) 1) := by
  refine mW.of (lv' := [(0, .ref (a 0)), (1, .int fa)]) (by decide) (Nat.le_of_ble_eq_true rfl) rfl ?_
  intro p e s m args below meth c E hr hlk hm hA
  refine k_aload_n E 0 rfl rfl dX3_worth_0 ?_
  refine k_aload_n E 0 rfl rfl dX3_worth_1 ?_
  refine k_iload_n E 1 rfl rfl dX3_worth_2 ?_
  refine k_callRV [.int fa] E (m_X3_isBatch l D k a dy rooms tanks bests cows nf vrooms inv vsh nv ub vis rounds itk farm amount mark ways n nb thr fa) cf_X3_isBatch q_856 [0, 1, 2, 3, 4, 5, 6, 7, 8, 9, 10, 11, 12] rfl 0 rfl rfl rfl rfl ⟨by decide, by decide⟩ (Nat.le_of_ble_eq_true rfl) ⟨by decide, by decide⟩ dX3_worth_3 ?_
  refine k_steq (st' := [.int (kB (isR fa nb)), .ref (a 0)]) rfl ?_
  refine k_if_ne E (tgt := 13) (by decide) dX3_worth_6 (fun c6 => absurd (kB_t c6) (by first | (rw [isR_f hb (by omega)]; decide) | (rw [show inL _ _ _ = false from isR_f hb (by omega)]; decide))) (fun c6 => ?_)
  have c6 := kB_f c6
  refine k_iconst E (v := 1) (by decide) dX3_worth_9 ?_
  refine k_goto E (tgt := 26) (by decide) dX3_worth_10 ?_
  refine k_put (ws' := (wMO k a (nI dy) rooms tanks bests cows (nI nf) vrooms inv vsh (nI nv) (kB ub) vis rounds itk farm amount mark ways (nI n) (nI nb) 1)) E inX3 tyX3 tyX3_ok nmX3 0 rfl rfl 20 (by decide) q_695 rfl rfl rfl rfl (Nat.le_of_ble_eq_true rfl) rfl dX3_worth_26 ?_
  refine k_aload_n E 0 rfl rfl dX3_worth_29 ?_
  refine k_get E inX3 0 rfl rfl 20 (by decide) q_695 rfl rfl dX3_worth_30 ?_
  refine k_if_ne E (tgt := 40) (by decide) dX3_worth_33 (fun _ => ?_) (fun h => absurd h (by decide))
  refine k_iconst E (v := (-1)) (by decide) dX3_worth_40 ?_
  refine k_istore_n (lv' := [(2, .int (-1)), (0, .ref (a 0)), (1, .int fa)]) E rfl (by decide) rfl dX3_worth_41 ?_
  refine k_iconst E (v := 0) (by decide) dX3_worth_42 ?_
  refine k_istore_n (lv' := [(3, .int 0), (2, .int (-1)), (0, .ref (a 0)), (1, .int fa)]) E rfl (by decide) rfl dX3_worth_43 ?_
  refine k_iload_n E 0 rfl rfl dX3_worth_44 ?_
  refine k_aload_n E 2 rfl rfl dX3_worth_45 ?_
  refine k_get E inX3 0 rfl rfl 18 (by decide) q_693 rfl rfl dX3_worth_46 ?_
  refine k_icmp_ge E (tgt := 90) (by decide) dX3_worth_49 (fun c49 => ?_) (fun c49 => ?_)
  · skip
    have c49 := (nI_leI (a := n) (b := 0) (by omega) (by omega)).mp c49
    refine k_iload_n E 1 rfl rfl dX3_worth_90 ?_
    exact kw_iret E hr hlk rfl rfl (by decide) (by decide) dX3_worth_91
  · skip
    have c49 := (not_congr (nI_leI (a := n) (b := 0) (by omega) (by omega))).mp c49
    refine k_aload_n E 2 rfl rfl dX3_worth_52 ?_
    refine k_get E inX3 0 rfl rfl 20 (by decide) q_695 rfl rfl dX3_worth_53 ?_
    refine k_if_ne E (tgt := 90) (by decide) dX3_worth_56 (fun _ => ?_) (fun h => absurd h (by decide))
    refine k_iload_n E 1 rfl rfl dX3_worth_90 ?_
    exact kw_iret E hr hlk rfl rfl (by decide) (by decide) dX3_worth_91
set_option maxRecDepth 100000 in
set_option maxHeartbeats 4000000 in
theorem m_X3_worth_u (l : Launch) (D : va_G) (k : Nat → ClassId) (a : Nat → Nat) (dy : Nat) (rooms : Nat → Int32) (tanks : Nat → Int32) (bests : Nat → Int32) (cows : Nat → Int32) (nf : Nat) (vrooms : Nat → Int32) (inv : Nat → Int32) (vsh : Nat → Int32) (nv : Nat) (ub : Bool) (vis : Nat → Int32) (rounds : Int32) (itk : Int32) (farm : Nat → Int32) (amount : Nat → Int32) (mark : Nat → Int32) (ways : Nat → Int32) (n : Nat) (nb : Nat) (thr : Int32) (j : Nat) (hj : j < nb) (hnb : nb ≤ 20) (hn : n ≤ 100) (hg : hsB ways mark (nI j) 45 n = true) : mW l yX3_worth cX3_worth 4 (some .int) 2 46 0 0 D (kTy k) [.ref (a 0), .int (nI j)] (wMO k a (nI dy) rooms tanks bests cows (nI nf) vrooms inv vsh (nI nv) (kB ub) vis rounds itk farm amount mark ways (nI n) (nI nb) thr) (some (.int (-1))) (wMO k a (nI dy) rooms tanks bests cows (nI nf) vrooms inv vsh (nI nv) (kB ub) vis rounds itk farm amount mark ways (nI n) (nI nb) 2) := by
  refine mW.of (lv' := [(0, .ref (a 0)), (1, .int (nI j))]) (by decide) (Nat.le_of_ble_eq_true rfl) rfl ?_
  intro p e s m args below meth c E hr hlk hm hA
  refine k_aload_n E 0 rfl rfl dX3_worth_0 ?_
  refine k_aload_n E 0 rfl rfl dX3_worth_1 ?_
  refine k_iload_n E 1 rfl rfl dX3_worth_2 ?_
  refine k_callRV [.int (nI j)] E (m_X3_isBatch l D k a dy rooms tanks bests cows nf vrooms inv vsh nv ub vis rounds itk farm amount mark ways n nb thr (nI j)) cf_X3_isBatch q_856 [0, 1, 2, 3, 4, 5, 6, 7, 8, 9, 10, 11, 12] rfl 0 rfl rfl rfl rfl ⟨by decide, by decide⟩ (Nat.le_of_ble_eq_true rfl) ⟨by decide, by decide⟩ dX3_worth_3 ?_
  refine k_steq (st' := [.int (kB (isR (nI j) nb)), .ref (a 0)]) rfl ?_
  refine k_if_ne E (tgt := 13) (by decide) dX3_worth_6 (fun c6 => ?_) (fun c6 => absurd (kB_f c6) (by first | (rw [isR_t hj (by omega)]; decide) | (rw [show inL _ _ _ = true from isR_t hj (by omega)]; decide)))
  have c6 := kB_t c6
  refine k_aload_n E 0 rfl rfl dX3_worth_13 ?_
  refine k_iload_n E 1 rfl rfl dX3_worth_14 ?_
  refine k_callRV [.int (nI j)] E (m_X3_isGraded l D k a dy rooms tanks bests cows nf vrooms inv vsh nv ub vis rounds itk farm amount mark ways n nb thr (nI j) (by first | assumption | omega)) cf_X3_isGraded q_872 [0, 1, 2, 3, 4, 5, 6, 7, 8, 9, 10, 11, 12] rfl 0 rfl rfl rfl rfl ⟨by decide, by decide⟩ (Nat.le_of_ble_eq_true rfl) ⟨by decide, by decide⟩ dX3_worth_15 ?_
  refine k_steq (st' := [.int (kB (!hsB ways mark (nI j) 45 n)), .ref (a 0)]) rfl ?_
  refine k_if_ne E (tgt := 25) (by decide) dX3_worth_18 (fun c18 => absurd (kB_t c18) (by rw [hg]; decide)) (fun c18 => ?_)
  have c18 := kB_f c18
  refine k_iconst E (v := 2) (by decide) dX3_worth_21 ?_
  refine k_goto E (tgt := 26) (by decide) dX3_worth_22 ?_
  refine k_put (ws' := (wMO k a (nI dy) rooms tanks bests cows (nI nf) vrooms inv vsh (nI nv) (kB ub) vis rounds itk farm amount mark ways (nI n) (nI nb) 2)) E inX3 tyX3 tyX3_ok nmX3 0 rfl rfl 20 (by decide) q_695 rfl rfl rfl rfl (Nat.le_of_ble_eq_true rfl) rfl dX3_worth_26 ?_
  refine k_aload_n E 0 rfl rfl dX3_worth_29 ?_
  refine k_get E inX3 0 rfl rfl 20 (by decide) q_695 rfl rfl dX3_worth_30 ?_
  refine k_if_ne E (tgt := 40) (by decide) dX3_worth_33 (fun _ => ?_) (fun h => absurd h (by decide))
  refine k_iconst E (v := (-1)) (by decide) dX3_worth_40 ?_
  refine k_istore_n (lv' := [(2, .int (-1)), (0, .ref (a 0)), (1, .int (nI j))]) E rfl (by decide) rfl dX3_worth_41 ?_
  refine k_iconst E (v := 0) (by decide) dX3_worth_42 ?_
  refine k_istore_n (lv' := [(3, .int 0), (2, .int (-1)), (0, .ref (a 0)), (1, .int (nI j))]) E rfl (by decide) rfl dX3_worth_43 ?_
  refine k_iload_n E 0 rfl rfl dX3_worth_44 ?_
  refine k_aload_n E 2 rfl rfl dX3_worth_45 ?_
  refine k_get E inX3 0 rfl rfl 18 (by decide) q_693 rfl rfl dX3_worth_46 ?_
  refine k_icmp_ge E (tgt := 90) (by decide) dX3_worth_49 (fun c49 => ?_) (fun c49 => ?_)
  · skip
    have c49 := (nI_leI (a := n) (b := 0) (by omega) (by omega)).mp c49
    refine k_iload_n E 1 rfl rfl dX3_worth_90 ?_
    exact kw_iret E hr hlk rfl rfl (by decide) (by decide) dX3_worth_91
  · skip
    have c49 := (not_congr (nI_leI (a := n) (b := 0) (by omega) (by omega))).mp c49
    refine k_aload_n E 2 rfl rfl dX3_worth_52 ?_
    refine k_get E inX3 0 rfl rfl 20 (by decide) q_695 rfl rfl dX3_worth_53 ?_
    refine k_if_ne E (tgt := 90) (by decide) dX3_worth_56 (fun _ => ?_) (fun h => absurd h (by decide))
    refine k_iload_n E 1 rfl rfl dX3_worth_90 ?_
    exact kw_iret E hr hlk rfl rfl (by decide) (by decide) dX3_worth_91
set_option maxRecDepth 100000 in
set_option maxHeartbeats 4000000 in
theorem m_X3_loss (l : Launch) (D : va_G) (k : Nat → ClassId) (a : Nat → Nat) (dy : Nat) (rooms : Nat → Int32) (tanks : Nat → Int32) (bests : Nat → Int32) (cows : Nat → Int32) (nf : Nat) (vrooms : Nat → Int32) (inv : Nat → Int32) (vsh : Nat → Int32) (nv : Nat) (ub : Bool) (vis : Nat → Int32) (rounds : Int32) (itk : Int32) (farm : Nat → Int32) (amount : Nat → Int32) (mark : Nat → Int32) (ways : Nat → Int32) (n : Nat) (nb : Nat) (thr : Int32) (j : Nat) (hj : j < nb) (hnb : nb ≤ 20) (hn : n ≤ 100) (hg : hsB ways mark (nI j) 45 n = false) : mW l yX3_loss cX3_loss 2 (some .int) 2 47 0 0 D (kTy k) [.ref (a 0), .int (nI j)] (wMO k a (nI dy) rooms tanks bests cows (nI nf) vrooms inv vsh (nI nv) (kB ub) vis rounds itk farm amount mark ways (nI n) (nI nb) thr) (some (.int (losM ways mark amount (nI j) n))) (wMO k a (nI dy) rooms tanks bests cows (nI nf) vrooms inv vsh (nI nv) (kB ub) vis rounds itk farm amount mark ways (nI n) (nI nb) 0) := by
  refine mW.of (lv' := [(0, .ref (a 0)), (1, .int (nI j))]) (by decide) (Nat.le_of_ble_eq_true rfl) rfl ?_
  intro p e s m args below meth c E hr hlk hm hA
  refine k_aload_n E 0 rfl rfl dX3_loss_0 ?_
  refine k_aload_n E 0 rfl rfl dX3_loss_1 ?_
  refine k_iload_n E 1 rfl rfl dX3_loss_2 ?_
  refine k_callRV [.int (nI j)] E (m_X3_isBatch l D k a dy rooms tanks bests cows nf vrooms inv vsh nv ub vis rounds itk farm amount mark ways n nb thr (nI j)) cf_X3_isBatch q_856 [0, 1, 2, 3, 4, 5, 6, 7, 8, 9, 10, 11, 12] rfl 0 rfl rfl rfl rfl ⟨by decide, by decide⟩ (Nat.le_of_ble_eq_true rfl) ⟨by decide, by decide⟩ dX3_loss_3 ?_
  refine k_steq (st' := [.int (kB (isR (nI j) nb)), .ref (a 0)]) rfl ?_
  refine k_if_ne E (tgt := 13) (by decide) dX3_loss_6 (fun c6 => ?_) (fun c6 => absurd (kB_f c6) (by first | (rw [isR_t hj (by omega)]; decide) | (rw [show inL _ _ _ = true from isR_t hj (by omega)]; decide)))
  have c6 := kB_t c6
  refine k_aload_n E 0 rfl rfl dX3_loss_13 ?_
  refine k_iload_n E 1 rfl rfl dX3_loss_14 ?_
  refine k_callRV [.int (nI j)] E (m_X3_isGraded l D k a dy rooms tanks bests cows nf vrooms inv vsh nv ub vis rounds itk farm amount mark ways n nb thr (nI j) (by first | assumption | omega)) cf_X3_isGraded q_872 [0, 1, 2, 3, 4, 5, 6, 7, 8, 9, 10, 11, 12] rfl 0 rfl rfl rfl rfl ⟨by decide, by decide⟩ (Nat.le_of_ble_eq_true rfl) ⟨by decide, by decide⟩ dX3_loss_15 ?_
  refine k_steq (st' := [.int (kB (!hsB ways mark (nI j) 45 n)), .ref (a 0)]) rfl ?_
  refine k_if_ne E (tgt := 25) (by decide) dX3_loss_18 (fun c18 => ?_) (fun c18 => absurd (kB_f c18) (by rw [hg]; decide))
  have c18 := kB_t c18
  refine k_iconst E (v := 0) (by decide) dX3_loss_25 ?_
  refine k_put (ws' := (wMO k a (nI dy) rooms tanks bests cows (nI nf) vrooms inv vsh (nI nv) (kB ub) vis rounds itk farm amount mark ways (nI n) (nI nb) 0)) E inX3 tyX3 tyX3_ok nmX3 0 rfl rfl 20 (by decide) q_695 rfl rfl rfl rfl (Nat.le_of_ble_eq_true rfl) rfl dX3_loss_26 ?_
  refine k_aload_n E 0 rfl rfl dX3_loss_29 ?_
  refine k_get E inX3 0 rfl rfl 20 (by decide) q_695 rfl rfl dX3_loss_30 ?_
  refine k_if_ne E (tgt := 44) (by decide) dX3_loss_33 (fun h => absurd (by decide) h) (fun _ => ?_)
  refine k_aload_n E 0 rfl rfl dX3_loss_36 ?_
  refine k_iload_n E 1 rfl rfl dX3_loss_37 ?_
  refine k_callRV [.int (nI j)] E (m_X3_lossOf l D k a dy rooms tanks bests cows nf vrooms inv vsh nv ub vis rounds itk farm amount mark ways n nb 0 (nI j) (by first | assumption | omega)) cf_X3_lossOf q_888 [0, 1, 2, 3, 4, 5, 6, 7, 8, 9, 10, 11, 12] rfl 0 rfl rfl rfl rfl ⟨by decide, by decide⟩ (Nat.le_of_ble_eq_true rfl) ⟨by decide, by decide⟩ dX3_loss_38 ?_
  refine k_steq (st' := [.int (losM ways mark amount (nI j) n)]) rfl ?_
  refine k_goto E (tgt := 45) (by decide) dX3_loss_41 ?_
  exact kw_iret E hr hlk rfl rfl (by decide) (by decide) dX3_loss_45
set_option maxRecDepth 100000 in
set_option maxHeartbeats 4000000 in
theorem m_X3_loss_i (l : Launch) (D : va_G) (k : Nat → ClassId) (a : Nat → Nat) (dy : Nat) (rooms : Nat → Int32) (tanks : Nat → Int32) (bests : Nat → Int32) (cows : Nat → Int32) (nf : Nat) (vrooms : Nat → Int32) (inv : Nat → Int32) (vsh : Nat → Int32) (nv : Nat) (ub : Bool) (vis : Nat → Int32) (rounds : Int32) (itk : Int32) (farm : Nat → Int32) (amount : Nat → Int32) (mark : Nat → Int32) (ways : Nat → Int32) (n : Nat) (nb : Nat) (thr : Int32) (fa : Int32) (hb : fa < 0 ∨ nI nb ≤ fa) (hnb : nb ≤ 20) (hn : n ≤ 100) : mW l yX3_loss cX3_loss 2 (some .int) 2 47 0 0 D (kTy k) [.ref (a 0), .int fa] (wMO k a (nI dy) rooms tanks bests cows (nI nf) vrooms inv vsh (nI nv) (kB ub) vis rounds itk farm amount mark ways (nI n) (nI nb) thr) (some (.int (-1))) (wMO k a (nI dy) rooms tanks bests cows (nI nf) vrooms inv vsh (nI nv) (kB ub) vis rounds itk farm amount mark ways (nI n) (nI nb) 1) := by
  refine mW.of (lv' := [(0, .ref (a 0)), (1, .int fa)]) (by decide) (Nat.le_of_ble_eq_true rfl) rfl ?_
  intro p e s m args below meth c E hr hlk hm hA
  refine k_aload_n E 0 rfl rfl dX3_loss_0 ?_
  refine k_aload_n E 0 rfl rfl dX3_loss_1 ?_
  refine k_iload_n E 1 rfl rfl dX3_loss_2 ?_
  refine k_callRV [.int fa] E (m_X3_isBatch l D k a dy rooms tanks bests cows nf vrooms inv vsh nv ub vis rounds itk farm amount mark ways n nb thr fa) cf_X3_isBatch q_856 [0, 1, 2, 3, 4, 5, 6, 7, 8, 9, 10, 11, 12] rfl 0 rfl rfl rfl rfl ⟨by decide, by decide⟩ (Nat.le_of_ble_eq_true rfl) ⟨by decide, by decide⟩ dX3_loss_3 ?_
  refine k_steq (st' := [.int (kB (isR fa nb)), .ref (a 0)]) rfl ?_
  refine k_if_ne E (tgt := 13) (by decide) dX3_loss_6 (fun c6 => absurd (kB_t c6) (by first | (rw [isR_f hb (by omega)]; decide) | (rw [show inL _ _ _ = false from isR_f hb (by omega)]; decide))) (fun c6 => ?_)
  have c6 := kB_f c6
  refine k_iconst E (v := 1) (by decide) dX3_loss_9 ?_
  refine k_goto E (tgt := 26) (by decide) dX3_loss_10 ?_
  refine k_put (ws' := (wMO k a (nI dy) rooms tanks bests cows (nI nf) vrooms inv vsh (nI nv) (kB ub) vis rounds itk farm amount mark ways (nI n) (nI nb) 1)) E inX3 tyX3 tyX3_ok nmX3 0 rfl rfl 20 (by decide) q_695 rfl rfl rfl rfl (Nat.le_of_ble_eq_true rfl) rfl dX3_loss_26 ?_
  refine k_aload_n E 0 rfl rfl dX3_loss_29 ?_
  refine k_get E inX3 0 rfl rfl 20 (by decide) q_695 rfl rfl dX3_loss_30 ?_
  refine k_if_ne E (tgt := 44) (by decide) dX3_loss_33 (fun _ => ?_) (fun h => absurd h (by decide))
  refine k_iconst E (v := (-1)) (by decide) dX3_loss_44 ?_
  exact kw_iret E hr hlk rfl rfl (by decide) (by decide) dX3_loss_45
set_option maxRecDepth 100000 in
set_option maxHeartbeats 4000000 in
theorem m_X3_loss_u (l : Launch) (D : va_G) (k : Nat → ClassId) (a : Nat → Nat) (dy : Nat) (rooms : Nat → Int32) (tanks : Nat → Int32) (bests : Nat → Int32) (cows : Nat → Int32) (nf : Nat) (vrooms : Nat → Int32) (inv : Nat → Int32) (vsh : Nat → Int32) (nv : Nat) (ub : Bool) (vis : Nat → Int32) (rounds : Int32) (itk : Int32) (farm : Nat → Int32) (amount : Nat → Int32) (mark : Nat → Int32) (ways : Nat → Int32) (n : Nat) (nb : Nat) (thr : Int32) (j : Nat) (hj : j < nb) (hnb : nb ≤ 20) (hn : n ≤ 100) (hg : hsB ways mark (nI j) 45 n = true) : mW l yX3_loss cX3_loss 2 (some .int) 2 47 0 0 D (kTy k) [.ref (a 0), .int (nI j)] (wMO k a (nI dy) rooms tanks bests cows (nI nf) vrooms inv vsh (nI nv) (kB ub) vis rounds itk farm amount mark ways (nI n) (nI nb) thr) (some (.int (-1))) (wMO k a (nI dy) rooms tanks bests cows (nI nf) vrooms inv vsh (nI nv) (kB ub) vis rounds itk farm amount mark ways (nI n) (nI nb) 2) := by
  refine mW.of (lv' := [(0, .ref (a 0)), (1, .int (nI j))]) (by decide) (Nat.le_of_ble_eq_true rfl) rfl ?_
  intro p e s m args below meth c E hr hlk hm hA
  refine k_aload_n E 0 rfl rfl dX3_loss_0 ?_
  refine k_aload_n E 0 rfl rfl dX3_loss_1 ?_
  refine k_iload_n E 1 rfl rfl dX3_loss_2 ?_
  refine k_callRV [.int (nI j)] E (m_X3_isBatch l D k a dy rooms tanks bests cows nf vrooms inv vsh nv ub vis rounds itk farm amount mark ways n nb thr (nI j)) cf_X3_isBatch q_856 [0, 1, 2, 3, 4, 5, 6, 7, 8, 9, 10, 11, 12] rfl 0 rfl rfl rfl rfl ⟨by decide, by decide⟩ (Nat.le_of_ble_eq_true rfl) ⟨by decide, by decide⟩ dX3_loss_3 ?_
  refine k_steq (st' := [.int (kB (isR (nI j) nb)), .ref (a 0)]) rfl ?_
  refine k_if_ne E (tgt := 13) (by decide) dX3_loss_6 (fun c6 => ?_) (fun c6 => absurd (kB_f c6) (by first | (rw [isR_t hj (by omega)]; decide) | (rw [show inL _ _ _ = true from isR_t hj (by omega)]; decide)))
  have c6 := kB_t c6
  refine k_aload_n E 0 rfl rfl dX3_loss_13 ?_
  refine k_iload_n E 1 rfl rfl dX3_loss_14 ?_
  refine k_callRV [.int (nI j)] E (m_X3_isGraded l D k a dy rooms tanks bests cows nf vrooms inv vsh nv ub vis rounds itk farm amount mark ways n nb thr (nI j) (by first | assumption | omega)) cf_X3_isGraded q_872 [0, 1, 2, 3, 4, 5, 6, 7, 8, 9, 10, 11, 12] rfl 0 rfl rfl rfl rfl ⟨by decide, by decide⟩ (Nat.le_of_ble_eq_true rfl) ⟨by decide, by decide⟩ dX3_loss_15 ?_
  refine k_steq (st' := [.int (kB (!hsB ways mark (nI j) 45 n)), .ref (a 0)]) rfl ?_
  refine k_if_ne E (tgt := 25) (by decide) dX3_loss_18 (fun c18 => absurd (kB_t c18) (by rw [hg]; decide)) (fun c18 => ?_)
  have c18 := kB_f c18
  refine k_iconst E (v := 2) (by decide) dX3_loss_21 ?_
  refine k_goto E (tgt := 26) (by decide) dX3_loss_22 ?_
  refine k_put (ws' := (wMO k a (nI dy) rooms tanks bests cows (nI nf) vrooms inv vsh (nI nv) (kB ub) vis rounds itk farm amount mark ways (nI n) (nI nb) 2)) E inX3 tyX3 tyX3_ok nmX3 0 rfl rfl 20 (by decide) q_695 rfl rfl rfl rfl (Nat.le_of_ble_eq_true rfl) rfl dX3_loss_26 ?_
  refine k_aload_n E 0 rfl rfl dX3_loss_29 ?_
  refine k_get E inX3 0 rfl rfl 20 (by decide) q_695 rfl rfl dX3_loss_30 ?_
  refine k_if_ne E (tgt := 44) (by decide) dX3_loss_33 (fun _ => ?_) (fun h => absurd h (by decide))
  refine k_iconst E (v := (-1)) (by decide) dX3_loss_44 ?_
  exact kw_iret E hr hlk rfl rfl (by decide) (by decide) dX3_loss_45
set_option maxRecDepth 100000 in
set_option maxHeartbeats 4000000 in
theorem m_X3_pay (l : Launch) (D : va_G) (k : Nat → ClassId) (a : Nat → Nat) (dy : Nat) (rooms : Nat → Int32) (tanks : Nat → Int32) (bests : Nat → Int32) (cows : Nat → Int32) (nf : Nat) (vrooms : Nat → Int32) (inv : Nat → Int32) (vsh : Nat → Int32) (nv : Nat) (ub : Bool) (vis : Nat → Int32) (rounds : Int32) (itk : Int32) (farm : Nat → Int32) (amount : Nat → Int32) (mark : Nat → Int32) (ways : Nat → Int32) (n : Nat) (nb : Nat) (thr : Int32) (j : Nat) (hj : j < nf) (hnf : nf ≤ 6) (hn : n ≤ 100) : mW l yX3_pay cX3_pay 5 (some .long) 3 67 0 0 D (kTy k) [.ref (a 0), .int (nI j)] (wMO k a (nI dy) rooms tanks bests cows (nI nf) vrooms inv vsh (nI nv) (kB ub) vis rounds itk farm amount mark ways (nI n) (nI nb) thr) (some (.long (sL (fun zi => cnM farm ways mark (nI j) n zi) (fun zi => (payM ways mark amount n zi).toInt64) n))) (wMO k a (nI dy) rooms tanks bests cows (nI nf) vrooms inv vsh (nI nv) (kB ub) vis rounds itk farm amount mark ways (nI n) (nI nb) 0) := by
  refine mW.of (lv' := [(0, .ref (a 0)), (1, .int (nI j))]) (by decide) (Nat.le_of_ble_eq_true rfl) rfl ?_
  intro p e s m args below meth c E hr hlk hm hA
  refine k_aload_n E 0 rfl rfl dX3_pay_0 ?_
  refine k_aload_n E 0 rfl rfl dX3_pay_1 ?_
  refine k_iload_n E 1 rfl rfl dX3_pay_2 ?_
  refine k_callRV [.int (nI j)] E (m_X3_isFarm l D k a dy rooms tanks bests cows nf vrooms inv vsh nv ub vis rounds itk farm amount mark ways n nb thr (nI j)) cf_X3_isFarm q_756 [0, 1, 2, 3, 4, 5, 6, 7, 8, 9, 10, 11, 12] rfl 0 rfl rfl rfl rfl ⟨by decide, by decide⟩ (Nat.le_of_ble_eq_true rfl) ⟨by decide, by decide⟩ dX3_pay_3 ?_
  refine k_steq (st' := [.int (kB (isR (nI j) nf)), .ref (a 0)]) rfl ?_
  refine k_if_eq E (tgt := 13) (by decide) dX3_pay_6 (fun c6 => absurd (kB_f c6) (by first | (rw [isR_t hj (by omega)]; decide) | (rw [show inL _ _ _ = true from isR_t hj (by omega)]; decide))) (fun c6 => ?_)
  have c6 := kB_t c6
  refine k_iconst E (v := 0) (by decide) dX3_pay_9 ?_
  refine k_goto E (tgt := 14) (by decide) dX3_pay_10 ?_
  refine k_put (ws' := (wMO k a (nI dy) rooms tanks bests cows (nI nf) vrooms inv vsh (nI nv) (kB ub) vis rounds itk farm amount mark ways (nI n) (nI nb) 0)) E inX3 tyX3 tyX3_ok nmX3 0 rfl rfl 20 (by decide) q_695 rfl rfl rfl rfl (Nat.le_of_ble_eq_true rfl) rfl dX3_pay_14 ?_
  refine k_aload_n E 0 rfl rfl dX3_pay_17 ?_
  refine k_get E inX3 0 rfl rfl 20 (by decide) q_695 rfl rfl dX3_pay_18 ?_
  refine k_if_ne E (tgt := 28) (by decide) dX3_pay_21 (fun h => absurd (by decide) h) (fun _ => ?_)
  refine k_lconst E (v := 0) (by decide) dX3_pay_24 ?_
  refine k_goto E (tgt := 31) (by decide) dX3_pay_25 ?_
  refine k_lstore_n (lv' := [(2, .long 0), (0, .ref (a 0)), (1, .int (nI j))]) E rfl (by decide) rfl dX3_pay_31 ?_
  refine k_iconst E (v := 0) (by decide) dX3_pay_32 ?_
  refine k_istore (lv' := [(4, .int 0), (2, .long 0), (0, .ref (a 0)), (1, .int (nI j))]) E (by decide) rfl dX3_pay_33 ?_
  have L35 : ∀ (dn35 : Nat) (i : Nat) (x : Int64), i + dn35 = n → (x = sL (fun zi => cnM farm ways mark (nI j) n zi) (fun zi => (payM ways mark amount n zi).toInt64) i) → kJ p l e (kRmc 3 67 0 0) s m args below meth c (gW D (va_A (wMO k a (nI dy) rooms tanks bests cows (nI nf) vrooms inv vsh (nI nv) (kB ub) vis rounds itk farm amount mark ways (nI n) (nI nb) thr) s.heap.size) s.heap) 5 0 0 (MQ below (kQw (some (.long (sL (fun zi => cnM farm ways mark (nI j) n zi) (fun zi => (payM ways mark amount n zi).toInt64) n))) D (wMO k a (nI dy) rooms tanks bests cows (nI nf) vrooms inv vsh (nI nv) (kB ub) vis rounds itk farm amount mark ways (nI n) (nI nb) thr) (wMO k a (nI dy) rooms tanks bests cows (nI nf) vrooms inv vsh (nI nv) (kB ub) vis rounds itk farm amount mark ways (nI n) (nI nb) 0) s.heap.size) args s 0 0 (va_A (wMO k a (nI dy) rooms tanks bests cows (nI nf) vrooms inv vsh (nI nv) (kB ub) vis rounds itk farm amount mark ways (nI n) (nI nb) thr) s.heap.size)) (wMO k a (nI dy) rooms tanks bests cows (nI nf) vrooms inv vsh (nI nv) (kB ub) vis rounds itk farm amount mark ways (nI n) (nI nb) 0) 35 [(0, .ref (a 0)), (1, .int (nI j)), (2, .long x), (4, .int (nI i))] [] := by
    intro dn35
    induction dn35 with
    | zero =>
      intro i x hd35 hx
      refine k_iload E 3 rfl dX3_pay_35 ?_
      refine k_aload_n E 0 rfl rfl dX3_pay_37 ?_
      refine k_get E inX3 0 rfl rfl 18 (by decide) q_693 rfl rfl dX3_pay_38 ?_
      refine k_icmp_ge E (tgt := 81) (by decide) dX3_pay_41 (fun c41 => ?_) (fun c41 => absurd ((not_congr (nI_leI (a := n) (b := i) (by omega) (by omega))).mp c41) (by omega))
      have c41 := (nI_leI (a := n) (b := i) (by omega) (by omega)).mp c41
      refine k_lload_n E 2 rfl rfl dX3_pay_81 ?_
      exact kw_lret E hr hlk (by rw [hx, show i = n by omega]) rfl (by decide) (by decide) dX3_pay_82
    | succ dn35 ih35 =>
      intro i x hd35 hx
      refine k_iload E 3 rfl dX3_pay_35 ?_
      refine k_aload_n E 0 rfl rfl dX3_pay_37 ?_
      refine k_get E inX3 0 rfl rfl 18 (by decide) q_693 rfl rfl dX3_pay_38 ?_
      refine k_icmp_ge E (tgt := 81) (by decide) dX3_pay_41 (fun c41 => absurd ((nI_leI (a := n) (b := i) (by omega) (by omega)).mp c41) (by omega)) (fun c41 => ?_)
      have c41 := (not_congr (nI_leI (a := n) (b := i) (by omega) (by omega))).mp c41
      refine k_aload_n E 0 rfl rfl dX3_pay_44 ?_
      refine k_get E inX3 0 rfl rfl 20 (by decide) q_695 rfl rfl dX3_pay_45 ?_
      refine k_if_ne E (tgt := 81) (by decide) dX3_pay_48 (fun h => absurd (by decide) h) (fun _ => ?_)
      refine k_lload_n E 2 rfl rfl dX3_pay_51 ?_
      refine k_aload_n E 0 rfl rfl dX3_pay_52 ?_
      refine k_iload E 3 rfl dX3_pay_53 ?_
      refine k_iload_n E 1 rfl rfl dX3_pay_55 ?_
      refine k_callRV [.int (nI i), .int (nI j)] E (m_X3_counts l D k a dy rooms tanks bests cows nf vrooms inv vsh nv ub vis rounds itk farm amount mark ways n nb 0 i (nI j) (by first | assumption | omega) (by first | assumption | omega)) cf_X3_counts q_897 [0, 1, 2, 3, 4, 5, 6, 7, 8, 9, 10, 11, 12] rfl 0 rfl rfl rfl rfl ⟨by decide, by decide⟩ (Nat.le_of_ble_eq_true rfl) ⟨by decide, by decide⟩ dX3_pay_56 ?_
      refine k_steq (st' := [.int (kB (cnM farm ways mark (nI j) n i)), .long x]) rfl ?_
      refine k_if_eq E (tgt := 72) (by decide) dX3_pay_59 (fun c59 => ?_) (fun c59 => ?_)
      · skip
        have c59 := kB_f c59
        refine k_lconst E (v := 0) (by decide) dX3_pay_72 ?_
        refine k_ladd E dX3_pay_73 ?_
        refine k_lstore_n (lv' := [(2, .long (x + 0)), (0, .ref (a 0)), (1, .int (nI j)), (4, .int (nI i))]) E rfl (by decide) rfl dX3_pay_74 ?_
        refine k_iinc (q := 3) (v := nI (i + 1)) (lv' := [(4, .int (nI (i + 1))), (2, .long (x + 0)), (0, .ref (a 0)), (1, .int (nI j))]) E rfl (nI_inc _) (by decide) rfl dX3_pay_75 ?_
        refine k_goto E (tgt := 35) (by decide) dX3_pay_78 ?_
        refine k_lv [2, 3, 1, 0] rfl ?_
        exact ih35 (i + 1) (x + 0) (by omega) (by simp [sL, *])
      · skip
        have c59 := kB_t c59
        refine k_aload_n E 0 rfl rfl dX3_pay_62 ?_
        refine k_iload E 3 rfl dX3_pay_63 ?_
        refine k_callRV [.int (nI i)] E (m_X3_payOf l D k a dy rooms tanks bests cows nf vrooms inv vsh nv ub vis rounds itk farm amount mark ways n nb 0 i (by first | assumption | omega) (by first | assumption | omega)) cf_X3_payOf q_876 [0, 1, 2, 3, 4, 5, 6, 7, 8, 9, 10, 11, 12] rfl 0 rfl rfl rfl rfl ⟨by decide, by decide⟩ (Nat.le_of_ble_eq_true rfl) ⟨by decide, by decide⟩ dX3_pay_65 ?_
        refine k_steq (st' := [.int (payM ways mark amount n i), .long x]) rfl ?_
        refine k_i2l E (v := (payM ways mark amount n i).toInt64) rfl dX3_pay_68 ?_
        refine k_goto E (tgt := 73) (by decide) dX3_pay_69 ?_
        refine k_ladd E dX3_pay_73 ?_
        refine k_lstore_n (lv' := [(2, .long (x + ((payM ways mark amount n i).toInt64))), (0, .ref (a 0)), (1, .int (nI j)), (4, .int (nI i))]) E rfl (by decide) rfl dX3_pay_74 ?_
        refine k_iinc (q := 3) (v := nI (i + 1)) (lv' := [(4, .int (nI (i + 1))), (2, .long (x + ((payM ways mark amount n i).toInt64))), (0, .ref (a 0)), (1, .int (nI j))]) E rfl (nI_inc _) (by decide) rfl dX3_pay_75 ?_
        refine k_goto E (tgt := 35) (by decide) dX3_pay_78 ?_
        refine k_lv [2, 3, 1, 0] rfl ?_
        exact ih35 (i + 1) (x + ((payM ways mark amount n i).toInt64)) (by omega) (by simp [sL, *])
  refine k_lv [2, 3, 1, 0] rfl ?_
  exact L35 (n - 0) 0 0 (by omega) rfl
set_option maxRecDepth 100000 in
set_option maxHeartbeats 4000000 in
theorem m_X3_pay_i (l : Launch) (D : va_G) (k : Nat → ClassId) (a : Nat → Nat) (dy : Nat) (rooms : Nat → Int32) (tanks : Nat → Int32) (bests : Nat → Int32) (cows : Nat → Int32) (nf : Nat) (vrooms : Nat → Int32) (inv : Nat → Int32) (vsh : Nat → Int32) (nv : Nat) (ub : Bool) (vis : Nat → Int32) (rounds : Int32) (itk : Int32) (farm : Nat → Int32) (amount : Nat → Int32) (mark : Nat → Int32) (ways : Nat → Int32) (n : Nat) (nb : Nat) (thr : Int32) (fa : Int32) (hb : fa < 0 ∨ nI nf ≤ fa) (hnf : nf ≤ 6) (hn : n ≤ 100) : mW l yX3_pay cX3_pay 5 (some .long) 3 67 0 0 D (kTy k) [.ref (a 0), .int fa] (wMO k a (nI dy) rooms tanks bests cows (nI nf) vrooms inv vsh (nI nv) (kB ub) vis rounds itk farm amount mark ways (nI n) (nI nb) thr) (some (.long (-1))) (wMO k a (nI dy) rooms tanks bests cows (nI nf) vrooms inv vsh (nI nv) (kB ub) vis rounds itk farm amount mark ways (nI n) (nI nb) 1) := by
  refine mW.of (lv' := [(0, .ref (a 0)), (1, .int fa)]) (by decide) (Nat.le_of_ble_eq_true rfl) rfl ?_
  intro p e s m args below meth c E hr hlk hm hA
  refine k_aload_n E 0 rfl rfl dX3_pay_0 ?_
  refine k_aload_n E 0 rfl rfl dX3_pay_1 ?_
  refine k_iload_n E 1 rfl rfl dX3_pay_2 ?_
  refine k_callRV [.int fa] E (m_X3_isFarm l D k a dy rooms tanks bests cows nf vrooms inv vsh nv ub vis rounds itk farm amount mark ways n nb thr fa) cf_X3_isFarm q_756 [0, 1, 2, 3, 4, 5, 6, 7, 8, 9, 10, 11, 12] rfl 0 rfl rfl rfl rfl ⟨by decide, by decide⟩ (Nat.le_of_ble_eq_true rfl) ⟨by decide, by decide⟩ dX3_pay_3 ?_
  refine k_steq (st' := [.int (kB (isR fa nf)), .ref (a 0)]) rfl ?_
  refine k_if_eq E (tgt := 13) (by decide) dX3_pay_6 (fun c6 => ?_) (fun c6 => absurd (kB_t c6) (by first | (rw [isR_f hb (by omega)]; decide) | (rw [show inL _ _ _ = false from isR_f hb (by omega)]; decide)))
  have c6 := kB_f c6
  refine k_iconst E (v := 1) (by decide) dX3_pay_13 ?_
  refine k_put (ws' := (wMO k a (nI dy) rooms tanks bests cows (nI nf) vrooms inv vsh (nI nv) (kB ub) vis rounds itk farm amount mark ways (nI n) (nI nb) 1)) E inX3 tyX3 tyX3_ok nmX3 0 rfl rfl 20 (by decide) q_695 rfl rfl rfl rfl (Nat.le_of_ble_eq_true rfl) rfl dX3_pay_14 ?_
  refine k_aload_n E 0 rfl rfl dX3_pay_17 ?_
  refine k_get E inX3 0 rfl rfl 20 (by decide) q_695 rfl rfl dX3_pay_18 ?_
  refine k_if_ne E (tgt := 28) (by decide) dX3_pay_21 (fun _ => ?_) (fun h => absurd h (by decide))
  refine k_ldc2 E (v := (-1)) q_896 dX3_pay_28 ?_
  refine k_lstore_n (lv' := [(2, .long (-1)), (0, .ref (a 0)), (1, .int fa)]) E rfl (by decide) rfl dX3_pay_31 ?_
  refine k_iconst E (v := 0) (by decide) dX3_pay_32 ?_
  refine k_istore (lv' := [(4, .int 0), (2, .long (-1)), (0, .ref (a 0)), (1, .int fa)]) E (by decide) rfl dX3_pay_33 ?_
  refine k_iload E 0 rfl dX3_pay_35 ?_
  refine k_aload_n E 2 rfl rfl dX3_pay_37 ?_
  refine k_get E inX3 0 rfl rfl 18 (by decide) q_693 rfl rfl dX3_pay_38 ?_
  refine k_icmp_ge E (tgt := 81) (by decide) dX3_pay_41 (fun c41 => ?_) (fun c41 => ?_)
  · skip
    have c41 := (nI_leI (a := n) (b := 0) (by omega) (by omega)).mp c41
    refine k_lload_n E 1 rfl rfl dX3_pay_81 ?_
    exact kw_lret E hr hlk rfl rfl (by decide) (by decide) dX3_pay_82
  · skip
    have c41 := (not_congr (nI_leI (a := n) (b := 0) (by omega) (by omega))).mp c41
    refine k_aload_n E 2 rfl rfl dX3_pay_44 ?_
    refine k_get E inX3 0 rfl rfl 20 (by decide) q_695 rfl rfl dX3_pay_45 ?_
    refine k_if_ne E (tgt := 81) (by decide) dX3_pay_48 (fun _ => ?_) (fun h => absurd h (by decide))
    refine k_lload_n E 1 rfl rfl dX3_pay_81 ?_
    exact kw_lret E hr hlk rfl rfl (by decide) (by decide) dX3_pay_82
set_option maxRecDepth 100000 in
set_option maxHeartbeats 4000000 in
theorem m_X3_blame (l : Launch) (D : va_G) (k : Nat → ClassId) (a : Nat → Nat) (dy : Nat) (rooms : Nat → Int32) (tanks : Nat → Int32) (bests : Nat → Int32) (cows : Nat → Int32) (nf : Nat) (vrooms : Nat → Int32) (inv : Nat → Int32) (vsh : Nat → Int32) (nv : Nat) (ub : Bool) (vis : Nat → Int32) (rounds : Int32) (itk : Int32) (farm : Nat → Int32) (amount : Nat → Int32) (mark : Nat → Int32) (ways : Nat → Int32) (n : Nat) (nb : Nat) (thr : Int32) (j : Nat) (hj : j < nf) (hnf : nf ≤ 6) (hn : n ≤ 100) (hsp : ∀ i, i < n → ¬ ways i < 10 → mark i = 120 → ¬ spM ways mark amount n i = 0) : mW l yX3_blame cX3_blame 5 (some .long) 3 75 0 0 D (kTy k) [.ref (a 0), .int (nI j)] (wMO k a (nI dy) rooms tanks bests cows (nI nf) vrooms inv vsh (nI nv) (kB ub) vis rounds itk farm amount mark ways (nI n) (nI nb) thr) (some (.long (sL (fun zi => cnM farm ways mark (nI j) n zi) (fun zi => (blM ways mark amount n zi).toInt64) n))) (wMO k a (nI dy) rooms tanks bests cows (nI nf) vrooms inv vsh (nI nv) (kB ub) vis rounds itk farm amount mark ways (nI n) (nI nb) 0) := by
  refine mW.of (lv' := [(0, .ref (a 0)), (1, .int (nI j))]) (by decide) (Nat.le_of_ble_eq_true rfl) rfl ?_
  intro p e s m args below meth c E hr hlk hm hA
  refine k_aload_n E 0 rfl rfl dX3_blame_0 ?_
  refine k_aload_n E 0 rfl rfl dX3_blame_1 ?_
  refine k_iload_n E 1 rfl rfl dX3_blame_2 ?_
  refine k_callRV [.int (nI j)] E (m_X3_isFarm l D k a dy rooms tanks bests cows nf vrooms inv vsh nv ub vis rounds itk farm amount mark ways n nb thr (nI j)) cf_X3_isFarm q_756 [0, 1, 2, 3, 4, 5, 6, 7, 8, 9, 10, 11, 12] rfl 0 rfl rfl rfl rfl ⟨by decide, by decide⟩ (Nat.le_of_ble_eq_true rfl) ⟨by decide, by decide⟩ dX3_blame_3 ?_
  refine k_steq (st' := [.int (kB (isR (nI j) nf)), .ref (a 0)]) rfl ?_
  refine k_if_eq E (tgt := 13) (by decide) dX3_blame_6 (fun c6 => absurd (kB_f c6) (by first | (rw [isR_t hj (by omega)]; decide) | (rw [show inL _ _ _ = true from isR_t hj (by omega)]; decide))) (fun c6 => ?_)
  have c6 := kB_t c6
  refine k_iconst E (v := 0) (by decide) dX3_blame_9 ?_
  refine k_goto E (tgt := 14) (by decide) dX3_blame_10 ?_
  refine k_put (ws' := (wMO k a (nI dy) rooms tanks bests cows (nI nf) vrooms inv vsh (nI nv) (kB ub) vis rounds itk farm amount mark ways (nI n) (nI nb) 0)) E inX3 tyX3 tyX3_ok nmX3 0 rfl rfl 20 (by decide) q_695 rfl rfl rfl rfl (Nat.le_of_ble_eq_true rfl) rfl dX3_blame_14 ?_
  refine k_aload_n E 0 rfl rfl dX3_blame_17 ?_
  refine k_get E inX3 0 rfl rfl 20 (by decide) q_695 rfl rfl dX3_blame_18 ?_
  refine k_if_ne E (tgt := 28) (by decide) dX3_blame_21 (fun h => absurd (by decide) h) (fun _ => ?_)
  refine k_lconst E (v := 0) (by decide) dX3_blame_24 ?_
  refine k_goto E (tgt := 31) (by decide) dX3_blame_25 ?_
  refine k_lstore_n (lv' := [(2, .long 0), (0, .ref (a 0)), (1, .int (nI j))]) E rfl (by decide) rfl dX3_blame_31 ?_
  refine k_iconst E (v := 0) (by decide) dX3_blame_32 ?_
  refine k_istore (lv' := [(4, .int 0), (2, .long 0), (0, .ref (a 0)), (1, .int (nI j))]) E (by decide) rfl dX3_blame_33 ?_
  have L35 : ∀ (dn35 : Nat) (i : Nat) (x : Int64), i + dn35 = n → (x = sL (fun zi => cnM farm ways mark (nI j) n zi) (fun zi => (blM ways mark amount n zi).toInt64) i) → kJ p l e (kRmc 3 75 0 0) s m args below meth c (gW D (va_A (wMO k a (nI dy) rooms tanks bests cows (nI nf) vrooms inv vsh (nI nv) (kB ub) vis rounds itk farm amount mark ways (nI n) (nI nb) thr) s.heap.size) s.heap) 5 0 0 (MQ below (kQw (some (.long (sL (fun zi => cnM farm ways mark (nI j) n zi) (fun zi => (blM ways mark amount n zi).toInt64) n))) D (wMO k a (nI dy) rooms tanks bests cows (nI nf) vrooms inv vsh (nI nv) (kB ub) vis rounds itk farm amount mark ways (nI n) (nI nb) thr) (wMO k a (nI dy) rooms tanks bests cows (nI nf) vrooms inv vsh (nI nv) (kB ub) vis rounds itk farm amount mark ways (nI n) (nI nb) 0) s.heap.size) args s 0 0 (va_A (wMO k a (nI dy) rooms tanks bests cows (nI nf) vrooms inv vsh (nI nv) (kB ub) vis rounds itk farm amount mark ways (nI n) (nI nb) thr) s.heap.size)) (wMO k a (nI dy) rooms tanks bests cows (nI nf) vrooms inv vsh (nI nv) (kB ub) vis rounds itk farm amount mark ways (nI n) (nI nb) 0) 35 [(0, .ref (a 0)), (1, .int (nI j)), (2, .long x), (4, .int (nI i))] [] := by
    intro dn35
    induction dn35 with
    | zero =>
      intro i x hd35 hx
      refine k_iload E 3 rfl dX3_blame_35 ?_
      refine k_aload_n E 0 rfl rfl dX3_blame_37 ?_
      refine k_get E inX3 0 rfl rfl 18 (by decide) q_693 rfl rfl dX3_blame_38 ?_
      refine k_icmp_ge E (tgt := 81) (by decide) dX3_blame_41 (fun c41 => ?_) (fun c41 => absurd ((not_congr (nI_leI (a := n) (b := i) (by omega) (by omega))).mp c41) (by omega))
      have c41 := (nI_leI (a := n) (b := i) (by omega) (by omega)).mp c41
      refine k_lload_n E 2 rfl rfl dX3_blame_81 ?_
      exact kw_lret E hr hlk (by rw [hx, show i = n by omega]) rfl (by decide) (by decide) dX3_blame_82
    | succ dn35 ih35 =>
      intro i x hd35 hx
      refine k_iload E 3 rfl dX3_blame_35 ?_
      refine k_aload_n E 0 rfl rfl dX3_blame_37 ?_
      refine k_get E inX3 0 rfl rfl 18 (by decide) q_693 rfl rfl dX3_blame_38 ?_
      refine k_icmp_ge E (tgt := 81) (by decide) dX3_blame_41 (fun c41 => absurd ((nI_leI (a := n) (b := i) (by omega) (by omega)).mp c41) (by omega)) (fun c41 => ?_)
      have c41 := (not_congr (nI_leI (a := n) (b := i) (by omega) (by omega))).mp c41
      refine k_aload_n E 0 rfl rfl dX3_blame_44 ?_
      refine k_get E inX3 0 rfl rfl 20 (by decide) q_695 rfl rfl dX3_blame_45 ?_
      refine k_if_ne E (tgt := 81) (by decide) dX3_blame_48 (fun h => absurd (by decide) h) (fun _ => ?_)
      refine k_lload_n E 2 rfl rfl dX3_blame_51 ?_
      refine k_aload_n E 0 rfl rfl dX3_blame_52 ?_
      refine k_iload E 3 rfl dX3_blame_53 ?_
      refine k_iload_n E 1 rfl rfl dX3_blame_55 ?_
      refine k_callRV [.int (nI i), .int (nI j)] E (m_X3_counts l D k a dy rooms tanks bests cows nf vrooms inv vsh nv ub vis rounds itk farm amount mark ways n nb 0 i (nI j) (by first | assumption | omega) (by first | assumption | omega)) cf_X3_counts q_897 [0, 1, 2, 3, 4, 5, 6, 7, 8, 9, 10, 11, 12] rfl 0 rfl rfl rfl rfl ⟨by decide, by decide⟩ (Nat.le_of_ble_eq_true rfl) ⟨by decide, by decide⟩ dX3_blame_56 ?_
      refine k_steq (st' := [.int (kB (cnM farm ways mark (nI j) n i)), .long x]) rfl ?_
      refine k_if_eq E (tgt := 72) (by decide) dX3_blame_59 (fun c59 => ?_) (fun c59 => ?_)
      · skip
        have c59 := kB_f c59
        refine k_lconst E (v := 0) (by decide) dX3_blame_72 ?_
        refine k_ladd E dX3_blame_73 ?_
        refine k_lstore_n (lv' := [(2, .long (x + 0)), (0, .ref (a 0)), (1, .int (nI j)), (4, .int (nI i))]) E rfl (by decide) rfl dX3_blame_74 ?_
        refine k_iinc (q := 3) (v := nI (i + 1)) (lv' := [(4, .int (nI (i + 1))), (2, .long (x + 0)), (0, .ref (a 0)), (1, .int (nI j))]) E rfl (nI_inc _) (by decide) rfl dX3_blame_75 ?_
        refine k_goto E (tgt := 35) (by decide) dX3_blame_78 ?_
        refine k_lv [2, 3, 1, 0] rfl ?_
        exact ih35 (i + 1) (x + 0) (by omega) (by simp [sL, *])
      · skip
        have c59 := kB_t c59
        refine k_aload_n E 0 rfl rfl dX3_blame_62 ?_
        refine k_iload E 3 rfl dX3_blame_63 ?_
        refine k_callRV [.int (nI i)] E (m_X3_blameOf l D k a dy rooms tanks bests cows nf vrooms inv vsh nv ub vis rounds itk farm amount mark ways n nb 0 i (by first | assumption | omega) (by first | assumption | omega) (hsp i (by omega))) cf_X3_blameOf q_905 [0, 1, 2, 3, 4, 5, 6, 7, 8, 9, 10, 11, 12] rfl 0 rfl rfl rfl rfl ⟨by decide, by decide⟩ (Nat.le_of_ble_eq_true rfl) ⟨by decide, by decide⟩ dX3_blame_65 ?_
        refine k_steq (st' := [.int (blM ways mark amount n i), .long x]) rfl ?_
        refine k_i2l E (v := (blM ways mark amount n i).toInt64) rfl dX3_blame_68 ?_
        refine k_goto E (tgt := 73) (by decide) dX3_blame_69 ?_
        refine k_ladd E dX3_blame_73 ?_
        refine k_lstore_n (lv' := [(2, .long (x + ((blM ways mark amount n i).toInt64))), (0, .ref (a 0)), (1, .int (nI j)), (4, .int (nI i))]) E rfl (by decide) rfl dX3_blame_74 ?_
        refine k_iinc (q := 3) (v := nI (i + 1)) (lv' := [(4, .int (nI (i + 1))), (2, .long (x + ((blM ways mark amount n i).toInt64))), (0, .ref (a 0)), (1, .int (nI j))]) E rfl (nI_inc _) (by decide) rfl dX3_blame_75 ?_
        refine k_goto E (tgt := 35) (by decide) dX3_blame_78 ?_
        refine k_lv [2, 3, 1, 0] rfl ?_
        exact ih35 (i + 1) (x + ((blM ways mark amount n i).toInt64)) (by omega) (by simp [sL, *])
  refine k_lv [2, 3, 1, 0] rfl ?_
  exact L35 (n - 0) 0 0 (by omega) rfl
set_option maxRecDepth 100000 in
set_option maxHeartbeats 4000000 in
theorem m_X3_blame_i (l : Launch) (D : va_G) (k : Nat → ClassId) (a : Nat → Nat) (dy : Nat) (rooms : Nat → Int32) (tanks : Nat → Int32) (bests : Nat → Int32) (cows : Nat → Int32) (nf : Nat) (vrooms : Nat → Int32) (inv : Nat → Int32) (vsh : Nat → Int32) (nv : Nat) (ub : Bool) (vis : Nat → Int32) (rounds : Int32) (itk : Int32) (farm : Nat → Int32) (amount : Nat → Int32) (mark : Nat → Int32) (ways : Nat → Int32) (n : Nat) (nb : Nat) (thr : Int32) (fa : Int32) (hb : fa < 0 ∨ nI nf ≤ fa) (hnf : nf ≤ 6) (hn : n ≤ 100) : mW l yX3_blame cX3_blame 5 (some .long) 3 75 0 0 D (kTy k) [.ref (a 0), .int fa] (wMO k a (nI dy) rooms tanks bests cows (nI nf) vrooms inv vsh (nI nv) (kB ub) vis rounds itk farm amount mark ways (nI n) (nI nb) thr) (some (.long (-1))) (wMO k a (nI dy) rooms tanks bests cows (nI nf) vrooms inv vsh (nI nv) (kB ub) vis rounds itk farm amount mark ways (nI n) (nI nb) 1) := by
  refine mW.of (lv' := [(0, .ref (a 0)), (1, .int fa)]) (by decide) (Nat.le_of_ble_eq_true rfl) rfl ?_
  intro p e s m args below meth c E hr hlk hm hA
  refine k_aload_n E 0 rfl rfl dX3_blame_0 ?_
  refine k_aload_n E 0 rfl rfl dX3_blame_1 ?_
  refine k_iload_n E 1 rfl rfl dX3_blame_2 ?_
  refine k_callRV [.int fa] E (m_X3_isFarm l D k a dy rooms tanks bests cows nf vrooms inv vsh nv ub vis rounds itk farm amount mark ways n nb thr fa) cf_X3_isFarm q_756 [0, 1, 2, 3, 4, 5, 6, 7, 8, 9, 10, 11, 12] rfl 0 rfl rfl rfl rfl ⟨by decide, by decide⟩ (Nat.le_of_ble_eq_true rfl) ⟨by decide, by decide⟩ dX3_blame_3 ?_
  refine k_steq (st' := [.int (kB (isR fa nf)), .ref (a 0)]) rfl ?_
  refine k_if_eq E (tgt := 13) (by decide) dX3_blame_6 (fun c6 => ?_) (fun c6 => absurd (kB_t c6) (by first | (rw [isR_f hb (by omega)]; decide) | (rw [show inL _ _ _ = false from isR_f hb (by omega)]; decide)))
  have c6 := kB_f c6
  refine k_iconst E (v := 1) (by decide) dX3_blame_13 ?_
  refine k_put (ws' := (wMO k a (nI dy) rooms tanks bests cows (nI nf) vrooms inv vsh (nI nv) (kB ub) vis rounds itk farm amount mark ways (nI n) (nI nb) 1)) E inX3 tyX3 tyX3_ok nmX3 0 rfl rfl 20 (by decide) q_695 rfl rfl rfl rfl (Nat.le_of_ble_eq_true rfl) rfl dX3_blame_14 ?_
  refine k_aload_n E 0 rfl rfl dX3_blame_17 ?_
  refine k_get E inX3 0 rfl rfl 20 (by decide) q_695 rfl rfl dX3_blame_18 ?_
  refine k_if_ne E (tgt := 28) (by decide) dX3_blame_21 (fun _ => ?_) (fun h => absurd h (by decide))
  refine k_ldc2 E (v := (-1)) q_896 dX3_blame_28 ?_
  refine k_lstore_n (lv' := [(2, .long (-1)), (0, .ref (a 0)), (1, .int fa)]) E rfl (by decide) rfl dX3_blame_31 ?_
  refine k_iconst E (v := 0) (by decide) dX3_blame_32 ?_
  refine k_istore (lv' := [(4, .int 0), (2, .long (-1)), (0, .ref (a 0)), (1, .int fa)]) E (by decide) rfl dX3_blame_33 ?_
  refine k_iload E 0 rfl dX3_blame_35 ?_
  refine k_aload_n E 2 rfl rfl dX3_blame_37 ?_
  refine k_get E inX3 0 rfl rfl 18 (by decide) q_693 rfl rfl dX3_blame_38 ?_
  refine k_icmp_ge E (tgt := 81) (by decide) dX3_blame_41 (fun c41 => ?_) (fun c41 => ?_)
  · skip
    have c41 := (nI_leI (a := n) (b := 0) (by omega) (by omega)).mp c41
    refine k_lload_n E 1 rfl rfl dX3_blame_81 ?_
    exact kw_lret E hr hlk rfl rfl (by decide) (by decide) dX3_blame_82
  · skip
    have c41 := (not_congr (nI_leI (a := n) (b := 0) (by omega) (by omega))).mp c41
    refine k_aload_n E 2 rfl rfl dX3_blame_44 ?_
    refine k_get E inX3 0 rfl rfl 20 (by decide) q_695 rfl rfl dX3_blame_45 ?_
    refine k_if_ne E (tgt := 81) (by decide) dX3_blame_48 (fun _ => ?_) (fun h => absurd h (by decide))
    refine k_lload_n E 1 rfl rfl dX3_blame_81 ?_
    exact kw_lret E hr hlk rfl rfl (by decide) (by decide) dX3_blame_82
set_option maxRecDepth 100000 in
set_option maxHeartbeats 4000000 in
theorem m_X3_balanceBySamples (l : Launch) (D : va_G) (k : Nat → ClassId) (a : Nat → Nat) (dy : Nat) (rooms : Nat → Int32) (tanks : Nat → Int32) (bests : Nat → Int32) (cows : Nat → Int32) (nf : Nat) (vrooms : Nat → Int32) (inv : Nat → Int32) (vsh : Nat → Int32) (nv : Nat) (ub : Bool) (vis : Nat → Int32) (rounds : Int32) (itk : Int32) (farm : Nat → Int32) (amount : Nat → Int32) (mark : Nat → Int32) (ways : Nat → Int32) (n : Nat) (nb : Nat) (thr : Int32) (j : Nat) (hj : j < nf) (hnf : nf ≤ 6) (hn : n ≤ 100) (hsp : ∀ i, i < n → ¬ ways i < 10 → mark i = 120 → ¬ spM ways mark amount n i = 0) : mW l yX3_balanceBySamples cX3_balanceBySamples 2 (some .long) 4 99 0 0 D (kTy k) [.ref (a 0), .int (nI j)] (wMO k a (nI dy) rooms tanks bests cows (nI nf) vrooms inv vsh (nI nv) (kB ub) vis rounds itk farm amount mark ways (nI n) (nI nb) thr) (some (.long (sL (fun zi => cnM farm ways mark (nI j) n zi) (fun zi => (payM ways mark amount n zi).toInt64) n - sL (fun zi => cnM farm ways mark (nI j) n zi) (fun zi => (blM ways mark amount n zi).toInt64) n))) (wMO k a (nI dy) rooms tanks bests cows (nI nf) vrooms inv vsh (nI nv) (kB ub) vis rounds itk farm amount mark ways (nI n) (nI nb) 0) := by
  refine mW.of (lv' := [(0, .ref (a 0)), (1, .int (nI j))]) (by decide) (Nat.le_of_ble_eq_true rfl) rfl ?_
  intro p e s m args below meth c E hr hlk hm hA
  refine k_aload_n E 0 rfl rfl dX3_balanceBySamples_0 ?_
  refine k_aload_n E 0 rfl rfl dX3_balanceBySamples_1 ?_
  refine k_iload_n E 1 rfl rfl dX3_balanceBySamples_2 ?_
  refine k_callRV [.int (nI j)] E (m_X3_isFarm l D k a dy rooms tanks bests cows nf vrooms inv vsh nv ub vis rounds itk farm amount mark ways n nb thr (nI j)) cf_X3_isFarm q_756 [0, 1, 2, 3, 4, 5, 6, 7, 8, 9, 10, 11, 12] rfl 0 rfl rfl rfl rfl ⟨by decide, by decide⟩ (Nat.le_of_ble_eq_true rfl) ⟨by decide, by decide⟩ dX3_balanceBySamples_3 ?_
  refine k_steq (st' := [.int (kB (isR (nI j) nf)), .ref (a 0)]) rfl ?_
  refine k_if_eq E (tgt := 13) (by decide) dX3_balanceBySamples_6 (fun c6 => absurd (kB_f c6) (by first | (rw [isR_t hj (by omega)]; decide) | (rw [show inL _ _ _ = true from isR_t hj (by omega)]; decide))) (fun c6 => ?_)
  have c6 := kB_t c6
  refine k_iconst E (v := 0) (by decide) dX3_balanceBySamples_9 ?_
  refine k_goto E (tgt := 14) (by decide) dX3_balanceBySamples_10 ?_
  refine k_put (ws' := (wMO k a (nI dy) rooms tanks bests cows (nI nf) vrooms inv vsh (nI nv) (kB ub) vis rounds itk farm amount mark ways (nI n) (nI nb) 0)) E inX3 tyX3 tyX3_ok nmX3 0 rfl rfl 20 (by decide) q_695 rfl rfl rfl rfl (Nat.le_of_ble_eq_true rfl) rfl dX3_balanceBySamples_14 ?_
  refine k_aload_n E 0 rfl rfl dX3_balanceBySamples_17 ?_
  refine k_get E inX3 0 rfl rfl 20 (by decide) q_695 rfl rfl dX3_balanceBySamples_18 ?_
  refine k_if_ne E (tgt := 38) (by decide) dX3_balanceBySamples_21 (fun h => absurd (by decide) h) (fun _ => ?_)
  refine k_aload_n E 0 rfl rfl dX3_balanceBySamples_24 ?_
  refine k_iload_n E 1 rfl rfl dX3_balanceBySamples_25 ?_
  refine k_callWV [.int (nI j)] E hA (m_X3_pay l D k a dy rooms tanks bests cows nf vrooms inv vsh nv ub vis rounds itk farm amount mark ways n nb 0 j (by first | assumption | omega) (by first | assumption | omega) (by first | assumption | omega)) cf_X3_pay q_913 [] [] (ws' := (wMO k a (nI dy) rooms tanks bests cows (nI nf) vrooms inv vsh (nI nv) (kB ub) vis rounds itk farm amount mark ways (nI n) (nI nb) 0)) rfl rfl 0 rfl rfl rfl rfl ⟨by decide, by decide⟩ (Nat.le_of_ble_eq_true rfl) ⟨by decide, by decide⟩ dX3_balanceBySamples_26 ?_
  refine k_steq (st' := [.long (sL (fun zi => cnM farm ways mark (nI j) n zi) (fun zi => (payM ways mark amount n zi).toInt64) n)]) rfl ?_
  refine k_aload_n E 0 rfl rfl dX3_balanceBySamples_29 ?_
  refine k_iload_n E 1 rfl rfl dX3_balanceBySamples_30 ?_
  refine k_callWV [.int (nI j)] E hA (m_X3_blame l D k a dy rooms tanks bests cows nf vrooms inv vsh nv ub vis rounds itk farm amount mark ways n nb 0 j (by first | assumption | omega) (by first | assumption | omega) (by first | assumption | omega) (by first | assumption | omega)) cf_X3_blame q_914 [] [] (ws' := (wMO k a (nI dy) rooms tanks bests cows (nI nf) vrooms inv vsh (nI nv) (kB ub) vis rounds itk farm amount mark ways (nI n) (nI nb) 0)) rfl rfl 0 rfl rfl rfl rfl ⟨by decide, by decide⟩ (Nat.le_of_ble_eq_true rfl) ⟨by decide, by decide⟩ dX3_balanceBySamples_31 ?_
  refine k_steq (st' := [.long (sL (fun zi => cnM farm ways mark (nI j) n zi) (fun zi => (blM ways mark amount n zi).toInt64) n), .long (sL (fun zi => cnM farm ways mark (nI j) n zi) (fun zi => (payM ways mark amount n zi).toInt64) n)]) rfl ?_
  refine k_lsub E dX3_balanceBySamples_34 ?_
  refine k_goto E (tgt := 41) (by decide) dX3_balanceBySamples_35 ?_
  exact kw_lret E hr hlk rfl rfl (by decide) (by decide) dX3_balanceBySamples_41
set_option maxRecDepth 100000 in
set_option maxHeartbeats 4000000 in
theorem m_X3_balanceBySamples_i (l : Launch) (D : va_G) (k : Nat → ClassId) (a : Nat → Nat) (dy : Nat) (rooms : Nat → Int32) (tanks : Nat → Int32) (bests : Nat → Int32) (cows : Nat → Int32) (nf : Nat) (vrooms : Nat → Int32) (inv : Nat → Int32) (vsh : Nat → Int32) (nv : Nat) (ub : Bool) (vis : Nat → Int32) (rounds : Int32) (itk : Int32) (farm : Nat → Int32) (amount : Nat → Int32) (mark : Nat → Int32) (ways : Nat → Int32) (n : Nat) (nb : Nat) (thr : Int32) (fa : Int32) (hb : fa < 0 ∨ nI nf ≤ fa) (hnf : nf ≤ 6) : mW l yX3_balanceBySamples cX3_balanceBySamples 2 (some .long) 4 99 0 0 D (kTy k) [.ref (a 0), .int fa] (wMO k a (nI dy) rooms tanks bests cows (nI nf) vrooms inv vsh (nI nv) (kB ub) vis rounds itk farm amount mark ways (nI n) (nI nb) thr) (some (.long (-1))) (wMO k a (nI dy) rooms tanks bests cows (nI nf) vrooms inv vsh (nI nv) (kB ub) vis rounds itk farm amount mark ways (nI n) (nI nb) 1) := by
  refine mW.of (lv' := [(0, .ref (a 0)), (1, .int fa)]) (by decide) (Nat.le_of_ble_eq_true rfl) rfl ?_
  intro p e s m args below meth c E hr hlk hm hA
  refine k_aload_n E 0 rfl rfl dX3_balanceBySamples_0 ?_
  refine k_aload_n E 0 rfl rfl dX3_balanceBySamples_1 ?_
  refine k_iload_n E 1 rfl rfl dX3_balanceBySamples_2 ?_
  refine k_callRV [.int fa] E (m_X3_isFarm l D k a dy rooms tanks bests cows nf vrooms inv vsh nv ub vis rounds itk farm amount mark ways n nb thr fa) cf_X3_isFarm q_756 [0, 1, 2, 3, 4, 5, 6, 7, 8, 9, 10, 11, 12] rfl 0 rfl rfl rfl rfl ⟨by decide, by decide⟩ (Nat.le_of_ble_eq_true rfl) ⟨by decide, by decide⟩ dX3_balanceBySamples_3 ?_
  refine k_steq (st' := [.int (kB (isR fa nf)), .ref (a 0)]) rfl ?_
  refine k_if_eq E (tgt := 13) (by decide) dX3_balanceBySamples_6 (fun c6 => ?_) (fun c6 => absurd (kB_t c6) (by first | (rw [isR_f hb (by omega)]; decide) | (rw [show inL _ _ _ = false from isR_f hb (by omega)]; decide)))
  have c6 := kB_f c6
  refine k_iconst E (v := 1) (by decide) dX3_balanceBySamples_13 ?_
  refine k_put (ws' := (wMO k a (nI dy) rooms tanks bests cows (nI nf) vrooms inv vsh (nI nv) (kB ub) vis rounds itk farm amount mark ways (nI n) (nI nb) 1)) E inX3 tyX3 tyX3_ok nmX3 0 rfl rfl 20 (by decide) q_695 rfl rfl rfl rfl (Nat.le_of_ble_eq_true rfl) rfl dX3_balanceBySamples_14 ?_
  refine k_aload_n E 0 rfl rfl dX3_balanceBySamples_17 ?_
  refine k_get E inX3 0 rfl rfl 20 (by decide) q_695 rfl rfl dX3_balanceBySamples_18 ?_
  refine k_if_ne E (tgt := 38) (by decide) dX3_balanceBySamples_21 (fun _ => ?_) (fun h => absurd h (by decide))
  refine k_ldc2 E (v := (-1)) q_896 dX3_balanceBySamples_38 ?_
  exact kw_lret E hr hlk rfl rfl (by decide) (by decide) dX3_balanceBySamples_41
set_option maxRecDepth 100000 in
set_option maxHeartbeats 4000000 in
theorem m_X3_spoiltShare (l : Launch) (D : va_G) (k : Nat → ClassId) (a : Nat → Nat) (dy : Nat) (rooms : Nat → Int32) (tanks : Nat → Int32) (bests : Nat → Int32) (cows : Nat → Int32) (nf : Nat) (vrooms : Nat → Int32) (inv : Nat → Int32) (vsh : Nat → Int32) (nv : Nat) (ub : Bool) (vis : Nat → Int32) (rounds : Int32) (itk : Int32) (farm : Nat → Int32) (amount : Nat → Int32) (mark : Nat → Int32) (ways : Nat → Int32) (n : Nat) (nb : Nat) (thr : Int32) (hn : n ≤ 100) (hn0 : 0 < n) (hnan : vf_n32 (FP.fdiv (FP.i2f (sI (fun zi => decide (¬ ways zi < 10) && hsB ways mark (ways zi - 10) 120 n) amount n)) (FP.i2f (sI (fun _ => true) amount n)))) : mW l yX3_spoiltShare cX3_spoiltShare 4 (some .float) 1 24 0 0 D (kTy k) [.ref (a 0)] (wMO k a (nI dy) rooms tanks bests cows (nI nf) vrooms inv vsh (nI nv) (kB ub) vis rounds itk farm amount mark ways (nI n) (nI nb) thr) (some (.float (FP.fdiv (FP.i2f (sI (fun zi => decide (¬ ways zi < 10) && hsB ways mark (ways zi - 10) 120 n) amount n)) (FP.i2f (sI (fun _ => true) amount n))))) (wMO k a (nI dy) rooms tanks bests cows (nI nf) vrooms inv vsh (nI nv) (kB ub) vis rounds itk farm amount mark ways (nI n) (nI nb) 0) := by
  refine mW.of (lv' := [(0, .ref (a 0))]) (by decide) (Nat.le_of_ble_eq_true rfl) rfl ?_
  intro p e s m args below meth c E hr hlk hm hA
  refine k_iconst E (v := 0) (by decide) dX3_spoiltShare_0 ?_
  refine k_istore_n (lv' := [(1, .int 0), (0, .ref (a 0))]) E rfl (by decide) rfl dX3_spoiltShare_1 ?_
  refine k_iconst E (v := 0) (by decide) dX3_spoiltShare_2 ?_
  refine k_istore_n (lv' := [(2, .int 0), (1, .int 0), (0, .ref (a 0))]) E rfl (by decide) rfl dX3_spoiltShare_3 ?_
  refine k_iconst E (v := 0) (by decide) dX3_spoiltShare_4 ?_
  refine k_istore_n (lv' := [(3, .int 0), (2, .int 0), (1, .int 0), (0, .ref (a 0))]) E rfl (by decide) rfl dX3_spoiltShare_5 ?_
  have L6 : ∀ (dn6 : Nat) (i : Nat) (x : Int32) (y : Int32), i + dn6 = n → (x = sI (fun zi => decide (¬ ways zi < 10) && hsB ways mark (ways zi - 10) 120 n) amount i) → (y = sI (fun _ => true) amount i) → kJ p l e (kRmc 1 24 0 0) s m args below meth c (gW D (va_A (wMO k a (nI dy) rooms tanks bests cows (nI nf) vrooms inv vsh (nI nv) (kB ub) vis rounds itk farm amount mark ways (nI n) (nI nb) thr) s.heap.size) s.heap) 4 0 0 (MQ below (kQw (some (.float (FP.fdiv (FP.i2f (sI (fun zi => decide (¬ ways zi < 10) && hsB ways mark (ways zi - 10) 120 n) amount n)) (FP.i2f (sI (fun _ => true) amount n))))) D (wMO k a (nI dy) rooms tanks bests cows (nI nf) vrooms inv vsh (nI nv) (kB ub) vis rounds itk farm amount mark ways (nI n) (nI nb) thr) (wMO k a (nI dy) rooms tanks bests cows (nI nf) vrooms inv vsh (nI nv) (kB ub) vis rounds itk farm amount mark ways (nI n) (nI nb) 0) s.heap.size) args s 0 0 (va_A (wMO k a (nI dy) rooms tanks bests cows (nI nf) vrooms inv vsh (nI nv) (kB ub) vis rounds itk farm amount mark ways (nI n) (nI nb) thr) s.heap.size)) (wMO k a (nI dy) rooms tanks bests cows (nI nf) vrooms inv vsh (nI nv) (kB ub) vis rounds itk farm amount mark ways (nI n) (nI nb) thr) 6 [(0, .ref (a 0)), (1, .int x), (2, .int y), (3, .int (nI i))] [] := by
    intro dn6
    induction dn6 with
    | zero =>
      intro i x y hd6 hx hy
      refine k_iload_n E 3 rfl rfl dX3_spoiltShare_6 ?_
      refine k_aload_n E 0 rfl rfl dX3_spoiltShare_7 ?_
      refine k_get E inX3 0 rfl rfl 18 (by decide) q_693 rfl rfl dX3_spoiltShare_8 ?_
      refine k_icmp_ge E (tgt := 71) (by decide) dX3_spoiltShare_11 (fun c11 => ?_) (fun c11 => absurd ((not_congr (nI_leI (a := n) (b := i) (by omega) (by omega))).mp c11) (by omega))
      have c11 := (nI_leI (a := n) (b := i) (by omega) (by omega)).mp c11
      refine k_aload_n E 0 rfl rfl dX3_spoiltShare_71 ?_
      refine k_aload_n E 0 rfl rfl dX3_spoiltShare_72 ?_
      refine k_get E inX3 0 rfl rfl 18 (by decide) q_693 rfl rfl dX3_spoiltShare_73 ?_
      refine k_if_ne E (tgt := 83) (by decide) dX3_spoiltShare_76 (fun c76 => ?_) (fun c76 => absurd ((nI_eq (a := n) (b := 0) (by omega) (by omega)).mp c76) (by omega))
      have c76 := (not_congr (nI_eq (a := n) (b := 0) (by omega) (by omega))).mp c76
      refine k_iconst E (v := 0) (by decide) dX3_spoiltShare_83 ?_
      refine k_put (ws' := (wMO k a (nI dy) rooms tanks bests cows (nI nf) vrooms inv vsh (nI nv) (kB ub) vis rounds itk farm amount mark ways (nI n) (nI nb) 0)) E inX3 tyX3 tyX3_ok nmX3 0 rfl rfl 20 (by decide) q_695 rfl rfl rfl rfl (Nat.le_of_ble_eq_true rfl) rfl dX3_spoiltShare_84 ?_
      refine k_aload_n E 0 rfl rfl dX3_spoiltShare_87 ?_
      refine k_get E inX3 0 rfl rfl 20 (by decide) q_695 rfl rfl dX3_spoiltShare_88 ?_
      refine k_if_ne E (tgt := 102) (by decide) dX3_spoiltShare_91 (fun h => absurd (by decide) h) (fun _ => ?_)
      refine k_iload_n E 1 rfl rfl dX3_spoiltShare_94 ?_
      refine k_i2f E dX3_spoiltShare_95 ?_
      refine k_iload_n E 2 rfl rfl dX3_spoiltShare_96 ?_
      refine k_i2f E dX3_spoiltShare_97 ?_
      refine k_fdiv E (by rw [hx, hy, show i = n by omega]; exact hnan) dX3_spoiltShare_98 ?_
      refine k_goto E (tgt := 103) (by decide) dX3_spoiltShare_99 ?_
      exact kw_fret E hr hlk (by rw [hx, hy, show i = n by omega]) rfl (by decide) (by decide) dX3_spoiltShare_103
    | succ dn6 ih6 =>
      intro i x y hd6 hx hy
      refine k_iload_n E 3 rfl rfl dX3_spoiltShare_6 ?_
      refine k_aload_n E 0 rfl rfl dX3_spoiltShare_7 ?_
      refine k_get E inX3 0 rfl rfl 18 (by decide) q_693 rfl rfl dX3_spoiltShare_8 ?_
      refine k_icmp_ge E (tgt := 71) (by decide) dX3_spoiltShare_11 (fun c11 => absurd ((nI_leI (a := n) (b := i) (by omega) (by omega)).mp c11) (by omega)) (fun c11 => ?_)
      have c11 := (not_congr (nI_leI (a := n) (b := i) (by omega) (by omega))).mp c11
      refine k_iload_n E 1 rfl rfl dX3_spoiltShare_14 ?_
      refine k_aload_n E 0 rfl rfl dX3_spoiltShare_15 ?_
      refine k_get E inX3 0 rfl rfl 17 (by decide) q_692 rfl rfl dX3_spoiltShare_16 ?_
      refine k_iload_n E 3 rfl rfl dX3_spoiltShare_19 ?_
      refine k_iald E (j := i) 12 0 rfl rfl rfl (by omega) (by decide) dX3_spoiltShare_20 ?_
      refine k_bipush E (v := 10) (by decide) dX3_spoiltShare_21 ?_
      refine k_icmp_lt E (tgt := 53) (by decide) dX3_spoiltShare_23 (fun c23 => ?_) (fun c23 => ?_)
      · skip
        refine k_iconst E (v := 0) (by decide) dX3_spoiltShare_53 ?_
        refine k_iadd E dX3_spoiltShare_54 ?_
        refine k_istore_n (lv' := [(1, .int (x + 0)), (0, .ref (a 0)), (2, .int y), (3, .int (nI i))]) E rfl (by decide) rfl dX3_spoiltShare_55 ?_
        refine k_iload_n E 2 rfl rfl dX3_spoiltShare_56 ?_
        refine k_aload_n E 1 rfl rfl dX3_spoiltShare_57 ?_
        refine k_get E inX3 0 rfl rfl 15 (by decide) q_690 rfl rfl dX3_spoiltShare_58 ?_
        refine k_iload_n E 3 rfl rfl dX3_spoiltShare_61 ?_
        refine k_iald E (j := i) 10 0 rfl rfl rfl (by omega) (by decide) dX3_spoiltShare_62 ?_
        refine k_iadd E dX3_spoiltShare_63 ?_
        refine k_istore_n (lv' := [(2, .int (y + (amount i))), (1, .int (x + 0)), (0, .ref (a 0)), (3, .int (nI i))]) E rfl (by decide) rfl dX3_spoiltShare_64 ?_
        refine k_iinc (q := 3) (v := nI (i + 1)) (lv' := [(3, .int (nI (i + 1))), (2, .int (y + (amount i))), (1, .int (x + 0)), (0, .ref (a 0))]) E rfl (nI_inc _) (by decide) rfl dX3_spoiltShare_65 ?_
        refine k_goto E (tgt := 6) (by decide) dX3_spoiltShare_68 ?_
        refine k_lv [3, 2, 1, 0] rfl ?_
        exact ih6 (i + 1) (x + 0) (y + (amount i)) (by omega) (by simp [sI, *]) (by simp [sI, *])
      · skip
        refine k_aload_n E 0 rfl rfl dX3_spoiltShare_26 ?_
        refine k_aload_n E 0 rfl rfl dX3_spoiltShare_27 ?_
        refine k_get E inX3 0 rfl rfl 17 (by decide) q_692 rfl rfl dX3_spoiltShare_28 ?_
        refine k_iload_n E 3 rfl rfl dX3_spoiltShare_31 ?_
        refine k_iald E (j := i) 12 0 rfl rfl rfl (by omega) (by decide) dX3_spoiltShare_32 ?_
        refine k_bipush E (v := 10) (by decide) dX3_spoiltShare_33 ?_
        refine k_isub E dX3_spoiltShare_35 ?_
        refine k_bipush E (v := 120) (by decide) dX3_spoiltShare_36 ?_
        refine k_callRV [.int ((ways i) - 10), .int 120] E (m_X3_has l D k a dy rooms tanks bests cows nf vrooms inv vsh nv ub vis rounds itk farm amount mark ways n nb thr ((ways i) - 10) 120 (by first | assumption | omega)) cf_X3_has q_860 [0, 1, 2, 3, 4, 5, 6, 7, 8, 9, 10, 11, 12] rfl 0 rfl rfl rfl rfl ⟨by decide, by decide⟩ (Nat.le_of_ble_eq_true rfl) ⟨by decide, by decide⟩ dX3_spoiltShare_38 ?_
        refine k_steq (st' := [.int (kB (hsB ways mark ((ways i) - 10) 120 n)), .int x]) rfl ?_
        refine k_if_eq E (tgt := 53) (by decide) dX3_spoiltShare_41 (fun c41 => ?_) (fun c41 => ?_)
        · skip
          have c41 := kB_f c41
          refine k_iconst E (v := 0) (by decide) dX3_spoiltShare_53 ?_
          refine k_iadd E dX3_spoiltShare_54 ?_
          refine k_istore_n (lv' := [(1, .int (x + 0)), (0, .ref (a 0)), (2, .int y), (3, .int (nI i))]) E rfl (by decide) rfl dX3_spoiltShare_55 ?_
          refine k_iload_n E 2 rfl rfl dX3_spoiltShare_56 ?_
          refine k_aload_n E 1 rfl rfl dX3_spoiltShare_57 ?_
          refine k_get E inX3 0 rfl rfl 15 (by decide) q_690 rfl rfl dX3_spoiltShare_58 ?_
          refine k_iload_n E 3 rfl rfl dX3_spoiltShare_61 ?_
          refine k_iald E (j := i) 10 0 rfl rfl rfl (by omega) (by decide) dX3_spoiltShare_62 ?_
          refine k_iadd E dX3_spoiltShare_63 ?_
          refine k_istore_n (lv' := [(2, .int (y + (amount i))), (1, .int (x + 0)), (0, .ref (a 0)), (3, .int (nI i))]) E rfl (by decide) rfl dX3_spoiltShare_64 ?_
          refine k_iinc (q := 3) (v := nI (i + 1)) (lv' := [(3, .int (nI (i + 1))), (2, .int (y + (amount i))), (1, .int (x + 0)), (0, .ref (a 0))]) E rfl (nI_inc _) (by decide) rfl dX3_spoiltShare_65 ?_
          refine k_goto E (tgt := 6) (by decide) dX3_spoiltShare_68 ?_
          refine k_lv [3, 2, 1, 0] rfl ?_
          exact ih6 (i + 1) (x + 0) (y + (amount i)) (by omega) (by simp [sI, *]) (by simp [sI, *])
        · skip
          have c41 := kB_t c41
          refine k_aload_n E 0 rfl rfl dX3_spoiltShare_44 ?_
          refine k_get E inX3 0 rfl rfl 15 (by decide) q_690 rfl rfl dX3_spoiltShare_45 ?_
          refine k_iload_n E 3 rfl rfl dX3_spoiltShare_48 ?_
          refine k_iald E (j := i) 10 0 rfl rfl rfl (by omega) (by decide) dX3_spoiltShare_49 ?_
          refine k_goto E (tgt := 54) (by decide) dX3_spoiltShare_50 ?_
          refine k_iadd E dX3_spoiltShare_54 ?_
          refine k_istore_n (lv' := [(1, .int (x + (amount i))), (0, .ref (a 0)), (2, .int y), (3, .int (nI i))]) E rfl (by decide) rfl dX3_spoiltShare_55 ?_
          refine k_iload_n E 2 rfl rfl dX3_spoiltShare_56 ?_
          refine k_aload_n E 1 rfl rfl dX3_spoiltShare_57 ?_
          refine k_get E inX3 0 rfl rfl 15 (by decide) q_690 rfl rfl dX3_spoiltShare_58 ?_
          refine k_iload_n E 3 rfl rfl dX3_spoiltShare_61 ?_
          refine k_iald E (j := i) 10 0 rfl rfl rfl (by omega) (by decide) dX3_spoiltShare_62 ?_
          refine k_iadd E dX3_spoiltShare_63 ?_
          refine k_istore_n (lv' := [(2, .int (y + (amount i))), (1, .int (x + (amount i))), (0, .ref (a 0)), (3, .int (nI i))]) E rfl (by decide) rfl dX3_spoiltShare_64 ?_
          refine k_iinc (q := 3) (v := nI (i + 1)) (lv' := [(3, .int (nI (i + 1))), (2, .int (y + (amount i))), (1, .int (x + (amount i))), (0, .ref (a 0))]) E rfl (nI_inc _) (by decide) rfl dX3_spoiltShare_65 ?_
          refine k_goto E (tgt := 6) (by decide) dX3_spoiltShare_68 ?_
          refine k_lv [3, 2, 1, 0] rfl ?_
          exact ih6 (i + 1) (x + (amount i)) (y + (amount i)) (by omega) (by simp [sI, *]) (by simp [sI, *])
  refine k_lv [3, 2, 1, 0] rfl ?_
  exact L6 (n - 0) 0 0 0 (by omega) rfl rfl
set_option maxRecDepth 100000 in
set_option maxHeartbeats 4000000 in
theorem m_X3_spoiltShare_r (l : Launch) (D : va_G) (k : Nat → ClassId) (a : Nat → Nat) (dy : Nat) (rooms : Nat → Int32) (tanks : Nat → Int32) (bests : Nat → Int32) (cows : Nat → Int32) (nf : Nat) (vrooms : Nat → Int32) (inv : Nat → Int32) (vsh : Nat → Int32) (nv : Nat) (ub : Bool) (vis : Nat → Int32) (rounds : Int32) (itk : Int32) (farm : Nat → Int32) (amount : Nat → Int32) (mark : Nat → Int32) (ways : Nat → Int32) (n : Nat) (nb : Nat) (thr : Int32) (hn : n ≤ 100) (hn0 : n = 0) : mW l yX3_spoiltShare cX3_spoiltShare 4 (some .float) 1 24 0 0 D (kTy k) [.ref (a 0)] (wMO k a (nI dy) rooms tanks bests cows (nI nf) vrooms inv vsh (nI nv) (kB ub) vis rounds itk farm amount mark ways (nI n) (nI nb) thr) (some (.float FP.fconst0)) (wMO k a (nI dy) rooms tanks bests cows (nI nf) vrooms inv vsh (nI nv) (kB ub) vis rounds itk farm amount mark ways (nI n) (nI nb) 1) := by
  refine mW.of (lv' := [(0, .ref (a 0))]) (by decide) (Nat.le_of_ble_eq_true rfl) rfl ?_
  intro p e s m args below meth c E hr hlk hm hA
  refine k_iconst E (v := 0) (by decide) dX3_spoiltShare_0 ?_
  refine k_istore_n (lv' := [(1, .int 0), (0, .ref (a 0))]) E rfl (by decide) rfl dX3_spoiltShare_1 ?_
  refine k_iconst E (v := 0) (by decide) dX3_spoiltShare_2 ?_
  refine k_istore_n (lv' := [(2, .int 0), (1, .int 0), (0, .ref (a 0))]) E rfl (by decide) rfl dX3_spoiltShare_3 ?_
  refine k_iconst E (v := 0) (by decide) dX3_spoiltShare_4 ?_
  refine k_istore_n (lv' := [(3, .int 0), (2, .int 0), (1, .int 0), (0, .ref (a 0))]) E rfl (by decide) rfl dX3_spoiltShare_5 ?_
  have L6 : ∀ (dn6 : Nat) (i : Nat) (x : Int32) (y : Int32), i + dn6 = n → (x = sI (fun zi => decide (¬ ways zi < 10) && hsB ways mark (ways zi - 10) 120 n) amount i) → (y = sI (fun _ => true) amount i) → kJ p l e (kRmc 1 24 0 0) s m args below meth c (gW D (va_A (wMO k a (nI dy) rooms tanks bests cows (nI nf) vrooms inv vsh (nI nv) (kB ub) vis rounds itk farm amount mark ways (nI n) (nI nb) thr) s.heap.size) s.heap) 4 0 0 (MQ below (kQw (some (.float FP.fconst0)) D (wMO k a (nI dy) rooms tanks bests cows (nI nf) vrooms inv vsh (nI nv) (kB ub) vis rounds itk farm amount mark ways (nI n) (nI nb) thr) (wMO k a (nI dy) rooms tanks bests cows (nI nf) vrooms inv vsh (nI nv) (kB ub) vis rounds itk farm amount mark ways (nI n) (nI nb) 1) s.heap.size) args s 0 0 (va_A (wMO k a (nI dy) rooms tanks bests cows (nI nf) vrooms inv vsh (nI nv) (kB ub) vis rounds itk farm amount mark ways (nI n) (nI nb) thr) s.heap.size)) (wMO k a (nI dy) rooms tanks bests cows (nI nf) vrooms inv vsh (nI nv) (kB ub) vis rounds itk farm amount mark ways (nI n) (nI nb) thr) 6 [(0, .ref (a 0)), (1, .int x), (2, .int y), (3, .int (nI i))] [] := by
    intro dn6
    induction dn6 with
    | zero =>
      intro i x y hd6 hx hy
      refine k_iload_n E 3 rfl rfl dX3_spoiltShare_6 ?_
      refine k_aload_n E 0 rfl rfl dX3_spoiltShare_7 ?_
      refine k_get E inX3 0 rfl rfl 18 (by decide) q_693 rfl rfl dX3_spoiltShare_8 ?_
      refine k_icmp_ge E (tgt := 71) (by decide) dX3_spoiltShare_11 (fun c11 => ?_) (fun c11 => absurd ((not_congr (nI_leI (a := n) (b := i) (by omega) (by omega))).mp c11) (by omega))
      have c11 := (nI_leI (a := n) (b := i) (by omega) (by omega)).mp c11
      refine k_aload_n E 0 rfl rfl dX3_spoiltShare_71 ?_
      refine k_aload_n E 0 rfl rfl dX3_spoiltShare_72 ?_
      refine k_get E inX3 0 rfl rfl 18 (by decide) q_693 rfl rfl dX3_spoiltShare_73 ?_
      refine k_if_ne E (tgt := 83) (by decide) dX3_spoiltShare_76 (fun c76 => absurd ((not_congr (nI_eq (a := n) (b := 0) (by omega) (by omega))).mp c76) (by omega)) (fun c76 => ?_)
      have c76 := (nI_eq (a := n) (b := 0) (by omega) (by omega)).mp c76
      refine k_iconst E (v := 1) (by decide) dX3_spoiltShare_79 ?_
      refine k_goto E (tgt := 84) (by decide) dX3_spoiltShare_80 ?_
      refine k_put (ws' := (wMO k a (nI dy) rooms tanks bests cows (nI nf) vrooms inv vsh (nI nv) (kB ub) vis rounds itk farm amount mark ways (nI n) (nI nb) 1)) E inX3 tyX3 tyX3_ok nmX3 0 rfl rfl 20 (by decide) q_695 rfl rfl rfl rfl (Nat.le_of_ble_eq_true rfl) rfl dX3_spoiltShare_84 ?_
      refine k_aload_n E 0 rfl rfl dX3_spoiltShare_87 ?_
      refine k_get E inX3 0 rfl rfl 20 (by decide) q_695 rfl rfl dX3_spoiltShare_88 ?_
      refine k_if_ne E (tgt := 102) (by decide) dX3_spoiltShare_91 (fun _ => ?_) (fun h => absurd h (by decide))
      refine k_fconst0 E dX3_spoiltShare_102 ?_
      exact kw_fret E hr hlk rfl rfl (by decide) (by decide) dX3_spoiltShare_103
    | succ dn6 ih6 =>
      intro i x y hd6 hx hy
      refine k_iload_n E 3 rfl rfl dX3_spoiltShare_6 ?_
      refine k_aload_n E 0 rfl rfl dX3_spoiltShare_7 ?_
      refine k_get E inX3 0 rfl rfl 18 (by decide) q_693 rfl rfl dX3_spoiltShare_8 ?_
      refine k_icmp_ge E (tgt := 71) (by decide) dX3_spoiltShare_11 (fun c11 => absurd ((nI_leI (a := n) (b := i) (by omega) (by omega)).mp c11) (by omega)) (fun c11 => ?_)
      have c11 := (not_congr (nI_leI (a := n) (b := i) (by omega) (by omega))).mp c11
      exact absurd (show n ≤ i by omega) c11
  refine k_lv [3, 2, 1, 0] rfl ?_
  exact L6 (n - 0) 0 0 0 (by omega) rfl rfl
set_option maxRecDepth 100000 in
set_option maxHeartbeats 4000000 in
theorem m_X3_meanPay (l : Launch) (D : va_G) (k : Nat → ClassId) (a : Nat → Nat) (dy : Nat) (rooms : Nat → Int32) (tanks : Nat → Int32) (bests : Nat → Int32) (cows : Nat → Int32) (nf : Nat) (vrooms : Nat → Int32) (inv : Nat → Int32) (vsh : Nat → Int32) (nv : Nat) (ub : Bool) (vis : Nat → Int32) (rounds : Int32) (itk : Int32) (farm : Nat → Int32) (amount : Nat → Int32) (mark : Nat → Int32) (ways : Nat → Int32) (n : Nat) (nb : Nat) (thr : Int32) (hn : n ≤ 100) (h0 : ¬ sI (fun zi => decide (¬ ways zi < 10) && !hsB ways mark (ways zi - 10) 45 n) amount n = 0) (hnan : vf_n64 (FP.ddiv (FP.i2d (sI (fun zi => decide (¬ ways zi < 10) && !hsB ways mark (ways zi - 10) 45 n) (fun zi => payM ways mark amount n zi) n)) (FP.i2d (sI (fun zi => decide (¬ ways zi < 10) && !hsB ways mark (ways zi - 10) 45 n) amount n)))) : mW l yX3_meanPay cX3_meanPay 5 (some .double) 2 45 0 0 D (kTy k) [.ref (a 0)] (wMO k a (nI dy) rooms tanks bests cows (nI nf) vrooms inv vsh (nI nv) (kB ub) vis rounds itk farm amount mark ways (nI n) (nI nb) thr) (some (.double (FP.ddiv (FP.i2d (sI (fun zi => decide (¬ ways zi < 10) && !hsB ways mark (ways zi - 10) 45 n) (fun zi => payM ways mark amount n zi) n)) (FP.i2d (sI (fun zi => decide (¬ ways zi < 10) && !hsB ways mark (ways zi - 10) 45 n) amount n))))) (wMO k a (nI dy) rooms tanks bests cows (nI nf) vrooms inv vsh (nI nv) (kB ub) vis rounds itk farm amount mark ways (nI n) (nI nb) 0) := by
  refine mW.of (lv' := [(0, .ref (a 0))]) (by decide) (Nat.le_of_ble_eq_true rfl) rfl ?_
  intro p e s m args below meth c E hr hlk hm hA
  refine k_iconst E (v := 0) (by decide) dX3_meanPay_0 ?_
  refine k_istore_n (lv' := [(1, .int 0), (0, .ref (a 0))]) E rfl (by decide) rfl dX3_meanPay_1 ?_
  refine k_iconst E (v := 0) (by decide) dX3_meanPay_2 ?_
  refine k_istore_n (lv' := [(2, .int 0), (1, .int 0), (0, .ref (a 0))]) E rfl (by decide) rfl dX3_meanPay_3 ?_
  refine k_iconst E (v := 0) (by decide) dX3_meanPay_4 ?_
  refine k_istore_n (lv' := [(3, .int 0), (2, .int 0), (1, .int 0), (0, .ref (a 0))]) E rfl (by decide) rfl dX3_meanPay_5 ?_
  have L6 : ∀ (dn6 : Nat) (i : Nat) (x : Int32) (y : Int32), i + dn6 = n → (x = sI (fun zi => decide (¬ ways zi < 10) && !hsB ways mark (ways zi - 10) 45 n) (fun zi => payM ways mark amount n zi) i) → (y = sI (fun zi => decide (¬ ways zi < 10) && !hsB ways mark (ways zi - 10) 45 n) amount i) → kJ p l e (kRmc 2 45 0 0) s m args below meth c (gW D (va_A (wMO k a (nI dy) rooms tanks bests cows (nI nf) vrooms inv vsh (nI nv) (kB ub) vis rounds itk farm amount mark ways (nI n) (nI nb) thr) s.heap.size) s.heap) 5 0 0 (MQ below (kQw (some (.double (FP.ddiv (FP.i2d (sI (fun zi => decide (¬ ways zi < 10) && !hsB ways mark (ways zi - 10) 45 n) (fun zi => payM ways mark amount n zi) n)) (FP.i2d (sI (fun zi => decide (¬ ways zi < 10) && !hsB ways mark (ways zi - 10) 45 n) amount n))))) D (wMO k a (nI dy) rooms tanks bests cows (nI nf) vrooms inv vsh (nI nv) (kB ub) vis rounds itk farm amount mark ways (nI n) (nI nb) thr) (wMO k a (nI dy) rooms tanks bests cows (nI nf) vrooms inv vsh (nI nv) (kB ub) vis rounds itk farm amount mark ways (nI n) (nI nb) 0) s.heap.size) args s 0 0 (va_A (wMO k a (nI dy) rooms tanks bests cows (nI nf) vrooms inv vsh (nI nv) (kB ub) vis rounds itk farm amount mark ways (nI n) (nI nb) thr) s.heap.size)) (wMO k a (nI dy) rooms tanks bests cows (nI nf) vrooms inv vsh (nI nv) (kB ub) vis rounds itk farm amount mark ways (nI n) (nI nb) thr) 6 [(0, .ref (a 0)), (1, .int x), (2, .int y), (3, .int (nI i))] [] := by
    intro dn6
    induction dn6 with
    | zero =>
      intro i x y hd6 hx hy
      refine k_iload_n E 3 rfl rfl dX3_meanPay_6 ?_
      refine k_aload_n E 0 rfl rfl dX3_meanPay_7 ?_
      refine k_get E inX3 0 rfl rfl 18 (by decide) q_693 rfl rfl dX3_meanPay_8 ?_
      refine k_icmp_ge E (tgt := 89) (by decide) dX3_meanPay_11 (fun c11 => ?_) (fun c11 => absurd ((not_congr (nI_leI (a := n) (b := i) (by omega) (by omega))).mp c11) (by omega))
      have c11 := (nI_leI (a := n) (b := i) (by omega) (by omega)).mp c11
      refine k_aload_n E 0 rfl rfl dX3_meanPay_89 ?_
      refine k_iload_n E 2 rfl rfl dX3_meanPay_90 ?_
      refine k_if_ne E (tgt := 98) (by decide) dX3_meanPay_91 (fun c91 => ?_) (fun c91 => absurd c91 (by rw [hy, show i = n by omega]; exact h0))
      refine k_iconst E (v := 0) (by decide) dX3_meanPay_98 ?_
      refine k_put (ws' := (wMO k a (nI dy) rooms tanks bests cows (nI nf) vrooms inv vsh (nI nv) (kB ub) vis rounds itk farm amount mark ways (nI n) (nI nb) 0)) E inX3 tyX3 tyX3_ok nmX3 0 rfl rfl 20 (by decide) q_695 rfl rfl rfl rfl (Nat.le_of_ble_eq_true rfl) rfl dX3_meanPay_99 ?_
      refine k_aload_n E 0 rfl rfl dX3_meanPay_102 ?_
      refine k_get E inX3 0 rfl rfl 20 (by decide) q_695 rfl rfl dX3_meanPay_103 ?_
      refine k_if_ne E (tgt := 117) (by decide) dX3_meanPay_106 (fun h => absurd (by decide) h) (fun _ => ?_)
      refine k_iload_n E 1 rfl rfl dX3_meanPay_109 ?_
      refine k_i2d E dX3_meanPay_110 ?_
      refine k_iload_n E 2 rfl rfl dX3_meanPay_111 ?_
      refine k_i2d E dX3_meanPay_112 ?_
      refine k_ddiv E (by rw [hx, hy, show i = n by omega]; exact hnan) dX3_meanPay_113 ?_
      refine k_goto E (tgt := 118) (by decide) dX3_meanPay_114 ?_
      exact kw_dret E hr hlk (by rw [hx, hy, show i = n by omega]) rfl (by decide) (by decide) dX3_meanPay_118
    | succ dn6 ih6 =>
      intro i x y hd6 hx hy
      refine k_iload_n E 3 rfl rfl dX3_meanPay_6 ?_
      refine k_aload_n E 0 rfl rfl dX3_meanPay_7 ?_
      refine k_get E inX3 0 rfl rfl 18 (by decide) q_693 rfl rfl dX3_meanPay_8 ?_
      refine k_icmp_ge E (tgt := 89) (by decide) dX3_meanPay_11 (fun c11 => absurd ((nI_leI (a := n) (b := i) (by omega) (by omega)).mp c11) (by omega)) (fun c11 => ?_)
      have c11 := (not_congr (nI_leI (a := n) (b := i) (by omega) (by omega))).mp c11
      refine k_aload_n E 0 rfl rfl dX3_meanPay_14 ?_
      refine k_get E inX3 0 rfl rfl 17 (by decide) q_692 rfl rfl dX3_meanPay_15 ?_
      refine k_iload_n E 3 rfl rfl dX3_meanPay_18 ?_
      refine k_iald E (j := i) 12 0 rfl rfl rfl (by omega) (by decide) dX3_meanPay_19 ?_
      refine k_bipush E (v := 10) (by decide) dX3_meanPay_20 ?_
      refine k_icmp_lt E (tgt := 45) (by decide) dX3_meanPay_22 (fun c22 => ?_) (fun c22 => ?_)
      · skip
        refine k_iconst E (v := 0) (by decide) dX3_meanPay_45 ?_
        refine k_istore (lv' := [(4, .int 0), (0, .ref (a 0)), (1, .int x), (2, .int y), (3, .int (nI i))]) E (by decide) rfl dX3_meanPay_46 ?_
        refine k_iload_n E 2 rfl rfl dX3_meanPay_48 ?_
        refine k_iload E 0 rfl dX3_meanPay_49 ?_
        refine k_if_eq E (tgt := 62) (by decide) dX3_meanPay_51 (fun _ => ?_) (fun h => absurd (by decide) h)
        refine k_iconst E (v := 0) (by decide) dX3_meanPay_62 ?_
        refine k_iadd E dX3_meanPay_63 ?_
        refine k_istore_n (lv' := [(1, .int (x + 0)), (4, .int 0), (0, .ref (a 0)), (2, .int y), (3, .int (nI i))]) E rfl (by decide) rfl dX3_meanPay_64 ?_
        refine k_iload_n E 3 rfl rfl dX3_meanPay_65 ?_
        refine k_iload E 1 rfl dX3_meanPay_66 ?_
        refine k_if_eq E (tgt := 80) (by decide) dX3_meanPay_68 (fun _ => ?_) (fun h => absurd (by decide) h)
        refine k_iconst E (v := 0) (by decide) dX3_meanPay_80 ?_
        refine k_iadd E dX3_meanPay_81 ?_
        refine k_istore_n (lv' := [(2, .int (y + 0)), (1, .int (x + 0)), (4, .int 0), (0, .ref (a 0)), (3, .int (nI i))]) E rfl (by decide) rfl dX3_meanPay_82 ?_
        refine k_iinc (q := 4) (v := nI (i + 1)) (lv' := [(3, .int (nI (i + 1))), (2, .int (y + 0)), (1, .int (x + 0)), (4, .int 0), (0, .ref (a 0))]) E rfl (nI_inc _) (by decide) rfl dX3_meanPay_83 ?_
        refine k_goto E (tgt := 6) (by decide) dX3_meanPay_86 ?_
        refine k_lv [4, 2, 1, 0] rfl ?_
        exact ih6 (i + 1) (x + 0) (y + 0) (by omega) (by simp [sI, *]) (by simp [sI, *])
      · skip
        refine k_aload_n E 0 rfl rfl dX3_meanPay_25 ?_
        refine k_aload_n E 0 rfl rfl dX3_meanPay_26 ?_
        refine k_get E inX3 0 rfl rfl 17 (by decide) q_692 rfl rfl dX3_meanPay_27 ?_
        refine k_iload_n E 3 rfl rfl dX3_meanPay_30 ?_
        refine k_iald E (j := i) 12 0 rfl rfl rfl (by omega) (by decide) dX3_meanPay_31 ?_
        refine k_bipush E (v := 10) (by decide) dX3_meanPay_32 ?_
        refine k_isub E dX3_meanPay_34 ?_
        refine k_callRV [.int ((ways i) - 10)] E (m_X3_isGraded l D k a dy rooms tanks bests cows nf vrooms inv vsh nv ub vis rounds itk farm amount mark ways n nb thr ((ways i) - 10) (by first | assumption | omega)) cf_X3_isGraded q_872 [0, 1, 2, 3, 4, 5, 6, 7, 8, 9, 10, 11, 12] rfl 0 rfl rfl rfl rfl ⟨by decide, by decide⟩ (Nat.le_of_ble_eq_true rfl) ⟨by decide, by decide⟩ dX3_meanPay_35 ?_
        refine k_steq (st' := [.int (kB (!hsB ways mark ((ways i) - 10) 45 n))]) rfl ?_
        refine k_if_eq E (tgt := 45) (by decide) dX3_meanPay_38 (fun c38 => ?_) (fun c38 => ?_)
        · skip
          have c38 := kB_f c38
          refine k_iconst E (v := 0) (by decide) dX3_meanPay_45 ?_
          refine k_istore (lv' := [(4, .int 0), (0, .ref (a 0)), (1, .int x), (2, .int y), (3, .int (nI i))]) E (by decide) rfl dX3_meanPay_46 ?_
          refine k_iload_n E 2 rfl rfl dX3_meanPay_48 ?_
          refine k_iload E 0 rfl dX3_meanPay_49 ?_
          refine k_if_eq E (tgt := 62) (by decide) dX3_meanPay_51 (fun _ => ?_) (fun h => absurd (by decide) h)
          refine k_iconst E (v := 0) (by decide) dX3_meanPay_62 ?_
          refine k_iadd E dX3_meanPay_63 ?_
          refine k_istore_n (lv' := [(1, .int (x + 0)), (4, .int 0), (0, .ref (a 0)), (2, .int y), (3, .int (nI i))]) E rfl (by decide) rfl dX3_meanPay_64 ?_
          refine k_iload_n E 3 rfl rfl dX3_meanPay_65 ?_
          refine k_iload E 1 rfl dX3_meanPay_66 ?_
          refine k_if_eq E (tgt := 80) (by decide) dX3_meanPay_68 (fun _ => ?_) (fun h => absurd (by decide) h)
          refine k_iconst E (v := 0) (by decide) dX3_meanPay_80 ?_
          refine k_iadd E dX3_meanPay_81 ?_
          refine k_istore_n (lv' := [(2, .int (y + 0)), (1, .int (x + 0)), (4, .int 0), (0, .ref (a 0)), (3, .int (nI i))]) E rfl (by decide) rfl dX3_meanPay_82 ?_
          refine k_iinc (q := 4) (v := nI (i + 1)) (lv' := [(3, .int (nI (i + 1))), (2, .int (y + 0)), (1, .int (x + 0)), (4, .int 0), (0, .ref (a 0))]) E rfl (nI_inc _) (by decide) rfl dX3_meanPay_83 ?_
          refine k_goto E (tgt := 6) (by decide) dX3_meanPay_86 ?_
          refine k_lv [4, 2, 1, 0] rfl ?_
          exact ih6 (i + 1) (x + 0) (y + 0) (by omega) (by simp [sI, *]) (by simp [sI, *])
        · skip
          have c38 := kB_t c38
          refine k_iconst E (v := 1) (by decide) dX3_meanPay_41 ?_
          refine k_goto E (tgt := 46) (by decide) dX3_meanPay_42 ?_
          refine k_istore (lv' := [(4, .int 1), (0, .ref (a 0)), (1, .int x), (2, .int y), (3, .int (nI i))]) E (by decide) rfl dX3_meanPay_46 ?_
          refine k_iload_n E 2 rfl rfl dX3_meanPay_48 ?_
          refine k_iload E 0 rfl dX3_meanPay_49 ?_
          refine k_if_eq E (tgt := 62) (by decide) dX3_meanPay_51 (fun h => absurd h (by decide)) (fun _ => ?_)
          refine k_aload_n E 1 rfl rfl dX3_meanPay_54 ?_
          refine k_iload_n E 4 rfl rfl dX3_meanPay_55 ?_
          refine k_callRV [.int (nI i)] E (m_X3_payOf l D k a dy rooms tanks bests cows nf vrooms inv vsh nv ub vis rounds itk farm amount mark ways n nb thr i (by first | assumption | omega) (by first | assumption | omega)) cf_X3_payOf q_876 [0, 1, 2, 3, 4, 5, 6, 7, 8, 9, 10, 11, 12] rfl 0 rfl rfl rfl rfl ⟨by decide, by decide⟩ (Nat.le_of_ble_eq_true rfl) ⟨by decide, by decide⟩ dX3_meanPay_56 ?_
          refine k_steq (st' := [.int (payM ways mark amount n i), .int x]) rfl ?_
          refine k_goto E (tgt := 63) (by decide) dX3_meanPay_59 ?_
          refine k_iadd E dX3_meanPay_63 ?_
          refine k_istore_n (lv' := [(1, .int (x + (payM ways mark amount n i))), (4, .int 1), (0, .ref (a 0)), (2, .int y), (3, .int (nI i))]) E rfl (by decide) rfl dX3_meanPay_64 ?_
          refine k_iload_n E 3 rfl rfl dX3_meanPay_65 ?_
          refine k_iload E 1 rfl dX3_meanPay_66 ?_
          refine k_if_eq E (tgt := 80) (by decide) dX3_meanPay_68 (fun h => absurd h (by decide)) (fun _ => ?_)
          refine k_aload_n E 2 rfl rfl dX3_meanPay_71 ?_
          refine k_get E inX3 0 rfl rfl 15 (by decide) q_690 rfl rfl dX3_meanPay_72 ?_
          refine k_iload_n E 4 rfl rfl dX3_meanPay_75 ?_
          refine k_iald E (j := i) 10 0 rfl rfl rfl (by omega) (by decide) dX3_meanPay_76 ?_
          refine k_goto E (tgt := 81) (by decide) dX3_meanPay_77 ?_
          refine k_iadd E dX3_meanPay_81 ?_
          refine k_istore_n (lv' := [(2, .int (y + (amount i))), (1, .int (x + (payM ways mark amount n i))), (4, .int 1), (0, .ref (a 0)), (3, .int (nI i))]) E rfl (by decide) rfl dX3_meanPay_82 ?_
          refine k_iinc (q := 4) (v := nI (i + 1)) (lv' := [(3, .int (nI (i + 1))), (2, .int (y + (amount i))), (1, .int (x + (payM ways mark amount n i))), (4, .int 1), (0, .ref (a 0))]) E rfl (nI_inc _) (by decide) rfl dX3_meanPay_83 ?_
          refine k_goto E (tgt := 6) (by decide) dX3_meanPay_86 ?_
          refine k_lv [4, 2, 1, 0] rfl ?_
          exact ih6 (i + 1) (x + (payM ways mark amount n i)) (y + (amount i)) (by omega) (by simp [sI, *]) (by simp [sI, *])
  refine k_lv [3, 2, 1, 0] rfl ?_
  exact L6 (n - 0) 0 0 0 (by omega) rfl rfl
set_option maxRecDepth 100000 in
set_option maxHeartbeats 4000000 in
theorem m_X3_meanPay_r (l : Launch) (D : va_G) (k : Nat → ClassId) (a : Nat → Nat) (dy : Nat) (rooms : Nat → Int32) (tanks : Nat → Int32) (bests : Nat → Int32) (cows : Nat → Int32) (nf : Nat) (vrooms : Nat → Int32) (inv : Nat → Int32) (vsh : Nat → Int32) (nv : Nat) (ub : Bool) (vis : Nat → Int32) (rounds : Int32) (itk : Int32) (farm : Nat → Int32) (amount : Nat → Int32) (mark : Nat → Int32) (ways : Nat → Int32) (n : Nat) (nb : Nat) (thr : Int32) (hn : n ≤ 100) (h0 : sI (fun zi => decide (¬ ways zi < 10) && !hsB ways mark (ways zi - 10) 45 n) amount n = 0) : mW l yX3_meanPay cX3_meanPay 5 (some .double) 2 45 0 0 D (kTy k) [.ref (a 0)] (wMO k a (nI dy) rooms tanks bests cows (nI nf) vrooms inv vsh (nI nv) (kB ub) vis rounds itk farm amount mark ways (nI n) (nI nb) thr) (some (.double FP.dconst0)) (wMO k a (nI dy) rooms tanks bests cows (nI nf) vrooms inv vsh (nI nv) (kB ub) vis rounds itk farm amount mark ways (nI n) (nI nb) 1) := by
  refine mW.of (lv' := [(0, .ref (a 0))]) (by decide) (Nat.le_of_ble_eq_true rfl) rfl ?_
  intro p e s m args below meth c E hr hlk hm hA
  refine k_iconst E (v := 0) (by decide) dX3_meanPay_0 ?_
  refine k_istore_n (lv' := [(1, .int 0), (0, .ref (a 0))]) E rfl (by decide) rfl dX3_meanPay_1 ?_
  refine k_iconst E (v := 0) (by decide) dX3_meanPay_2 ?_
  refine k_istore_n (lv' := [(2, .int 0), (1, .int 0), (0, .ref (a 0))]) E rfl (by decide) rfl dX3_meanPay_3 ?_
  refine k_iconst E (v := 0) (by decide) dX3_meanPay_4 ?_
  refine k_istore_n (lv' := [(3, .int 0), (2, .int 0), (1, .int 0), (0, .ref (a 0))]) E rfl (by decide) rfl dX3_meanPay_5 ?_
  have L6 : ∀ (dn6 : Nat) (i : Nat) (x : Int32) (y : Int32), i + dn6 = n → (x = sI (fun zi => decide (¬ ways zi < 10) && !hsB ways mark (ways zi - 10) 45 n) (fun zi => payM ways mark amount n zi) i) → (y = sI (fun zi => decide (¬ ways zi < 10) && !hsB ways mark (ways zi - 10) 45 n) amount i) → kJ p l e (kRmc 2 45 0 0) s m args below meth c (gW D (va_A (wMO k a (nI dy) rooms tanks bests cows (nI nf) vrooms inv vsh (nI nv) (kB ub) vis rounds itk farm amount mark ways (nI n) (nI nb) thr) s.heap.size) s.heap) 5 0 0 (MQ below (kQw (some (.double FP.dconst0)) D (wMO k a (nI dy) rooms tanks bests cows (nI nf) vrooms inv vsh (nI nv) (kB ub) vis rounds itk farm amount mark ways (nI n) (nI nb) thr) (wMO k a (nI dy) rooms tanks bests cows (nI nf) vrooms inv vsh (nI nv) (kB ub) vis rounds itk farm amount mark ways (nI n) (nI nb) 1) s.heap.size) args s 0 0 (va_A (wMO k a (nI dy) rooms tanks bests cows (nI nf) vrooms inv vsh (nI nv) (kB ub) vis rounds itk farm amount mark ways (nI n) (nI nb) thr) s.heap.size)) (wMO k a (nI dy) rooms tanks bests cows (nI nf) vrooms inv vsh (nI nv) (kB ub) vis rounds itk farm amount mark ways (nI n) (nI nb) thr) 6 [(0, .ref (a 0)), (1, .int x), (2, .int y), (3, .int (nI i))] [] := by
    intro dn6
    induction dn6 with
    | zero =>
      intro i x y hd6 hx hy
      refine k_iload_n E 3 rfl rfl dX3_meanPay_6 ?_
      refine k_aload_n E 0 rfl rfl dX3_meanPay_7 ?_
      refine k_get E inX3 0 rfl rfl 18 (by decide) q_693 rfl rfl dX3_meanPay_8 ?_
      refine k_icmp_ge E (tgt := 89) (by decide) dX3_meanPay_11 (fun c11 => ?_) (fun c11 => absurd ((not_congr (nI_leI (a := n) (b := i) (by omega) (by omega))).mp c11) (by omega))
      have c11 := (nI_leI (a := n) (b := i) (by omega) (by omega)).mp c11
      refine k_aload_n E 0 rfl rfl dX3_meanPay_89 ?_
      refine k_iload_n E 2 rfl rfl dX3_meanPay_90 ?_
      refine k_if_ne E (tgt := 98) (by decide) dX3_meanPay_91 (fun c91 => absurd c91 (not_not_intro (by rw [hy, show i = n by omega]; exact h0))) (fun c91 => ?_)
      refine k_iconst E (v := 1) (by decide) dX3_meanPay_94 ?_
      refine k_goto E (tgt := 99) (by decide) dX3_meanPay_95 ?_
      refine k_put (ws' := (wMO k a (nI dy) rooms tanks bests cows (nI nf) vrooms inv vsh (nI nv) (kB ub) vis rounds itk farm amount mark ways (nI n) (nI nb) 1)) E inX3 tyX3 tyX3_ok nmX3 0 rfl rfl 20 (by decide) q_695 rfl rfl rfl rfl (Nat.le_of_ble_eq_true rfl) rfl dX3_meanPay_99 ?_
      refine k_aload_n E 0 rfl rfl dX3_meanPay_102 ?_
      refine k_get E inX3 0 rfl rfl 20 (by decide) q_695 rfl rfl dX3_meanPay_103 ?_
      refine k_if_ne E (tgt := 117) (by decide) dX3_meanPay_106 (fun _ => ?_) (fun h => absurd h (by decide))
      refine k_dconst0 E dX3_meanPay_117 ?_
      exact kw_dret E hr hlk rfl rfl (by decide) (by decide) dX3_meanPay_118
    | succ dn6 ih6 =>
      intro i x y hd6 hx hy
      refine k_iload_n E 3 rfl rfl dX3_meanPay_6 ?_
      refine k_aload_n E 0 rfl rfl dX3_meanPay_7 ?_
      refine k_get E inX3 0 rfl rfl 18 (by decide) q_693 rfl rfl dX3_meanPay_8 ?_
      refine k_icmp_ge E (tgt := 89) (by decide) dX3_meanPay_11 (fun c11 => absurd ((nI_leI (a := n) (b := i) (by omega) (by omega)).mp c11) (by omega)) (fun c11 => ?_)
      have c11 := (not_congr (nI_leI (a := n) (b := i) (by omega) (by omega))).mp c11
      refine k_aload_n E 0 rfl rfl dX3_meanPay_14 ?_
      refine k_get E inX3 0 rfl rfl 17 (by decide) q_692 rfl rfl dX3_meanPay_15 ?_
      refine k_iload_n E 3 rfl rfl dX3_meanPay_18 ?_
      refine k_iald E (j := i) 12 0 rfl rfl rfl (by omega) (by decide) dX3_meanPay_19 ?_
      refine k_bipush E (v := 10) (by decide) dX3_meanPay_20 ?_
      refine k_icmp_lt E (tgt := 45) (by decide) dX3_meanPay_22 (fun c22 => ?_) (fun c22 => ?_)
      · skip
        refine k_iconst E (v := 0) (by decide) dX3_meanPay_45 ?_
        refine k_istore (lv' := [(4, .int 0), (0, .ref (a 0)), (1, .int x), (2, .int y), (3, .int (nI i))]) E (by decide) rfl dX3_meanPay_46 ?_
        refine k_iload_n E 2 rfl rfl dX3_meanPay_48 ?_
        refine k_iload E 0 rfl dX3_meanPay_49 ?_
        refine k_if_eq E (tgt := 62) (by decide) dX3_meanPay_51 (fun _ => ?_) (fun h => absurd (by decide) h)
        refine k_iconst E (v := 0) (by decide) dX3_meanPay_62 ?_
        refine k_iadd E dX3_meanPay_63 ?_
        refine k_istore_n (lv' := [(1, .int (x + 0)), (4, .int 0), (0, .ref (a 0)), (2, .int y), (3, .int (nI i))]) E rfl (by decide) rfl dX3_meanPay_64 ?_
        refine k_iload_n E 3 rfl rfl dX3_meanPay_65 ?_
        refine k_iload E 1 rfl dX3_meanPay_66 ?_
        refine k_if_eq E (tgt := 80) (by decide) dX3_meanPay_68 (fun _ => ?_) (fun h => absurd (by decide) h)
        refine k_iconst E (v := 0) (by decide) dX3_meanPay_80 ?_
        refine k_iadd E dX3_meanPay_81 ?_
        refine k_istore_n (lv' := [(2, .int (y + 0)), (1, .int (x + 0)), (4, .int 0), (0, .ref (a 0)), (3, .int (nI i))]) E rfl (by decide) rfl dX3_meanPay_82 ?_
        refine k_iinc (q := 4) (v := nI (i + 1)) (lv' := [(3, .int (nI (i + 1))), (2, .int (y + 0)), (1, .int (x + 0)), (4, .int 0), (0, .ref (a 0))]) E rfl (nI_inc _) (by decide) rfl dX3_meanPay_83 ?_
        refine k_goto E (tgt := 6) (by decide) dX3_meanPay_86 ?_
        refine k_lv [4, 2, 1, 0] rfl ?_
        exact ih6 (i + 1) (x + 0) (y + 0) (by omega) (by simp [sI, *]) (by simp [sI, *])
      · skip
        refine k_aload_n E 0 rfl rfl dX3_meanPay_25 ?_
        refine k_aload_n E 0 rfl rfl dX3_meanPay_26 ?_
        refine k_get E inX3 0 rfl rfl 17 (by decide) q_692 rfl rfl dX3_meanPay_27 ?_
        refine k_iload_n E 3 rfl rfl dX3_meanPay_30 ?_
        refine k_iald E (j := i) 12 0 rfl rfl rfl (by omega) (by decide) dX3_meanPay_31 ?_
        refine k_bipush E (v := 10) (by decide) dX3_meanPay_32 ?_
        refine k_isub E dX3_meanPay_34 ?_
        refine k_callRV [.int ((ways i) - 10)] E (m_X3_isGraded l D k a dy rooms tanks bests cows nf vrooms inv vsh nv ub vis rounds itk farm amount mark ways n nb thr ((ways i) - 10) (by first | assumption | omega)) cf_X3_isGraded q_872 [0, 1, 2, 3, 4, 5, 6, 7, 8, 9, 10, 11, 12] rfl 0 rfl rfl rfl rfl ⟨by decide, by decide⟩ (Nat.le_of_ble_eq_true rfl) ⟨by decide, by decide⟩ dX3_meanPay_35 ?_
        refine k_steq (st' := [.int (kB (!hsB ways mark ((ways i) - 10) 45 n))]) rfl ?_
        refine k_if_eq E (tgt := 45) (by decide) dX3_meanPay_38 (fun c38 => ?_) (fun c38 => ?_)
        · skip
          have c38 := kB_f c38
          refine k_iconst E (v := 0) (by decide) dX3_meanPay_45 ?_
          refine k_istore (lv' := [(4, .int 0), (0, .ref (a 0)), (1, .int x), (2, .int y), (3, .int (nI i))]) E (by decide) rfl dX3_meanPay_46 ?_
          refine k_iload_n E 2 rfl rfl dX3_meanPay_48 ?_
          refine k_iload E 0 rfl dX3_meanPay_49 ?_
          refine k_if_eq E (tgt := 62) (by decide) dX3_meanPay_51 (fun _ => ?_) (fun h => absurd (by decide) h)
          refine k_iconst E (v := 0) (by decide) dX3_meanPay_62 ?_
          refine k_iadd E dX3_meanPay_63 ?_
          refine k_istore_n (lv' := [(1, .int (x + 0)), (4, .int 0), (0, .ref (a 0)), (2, .int y), (3, .int (nI i))]) E rfl (by decide) rfl dX3_meanPay_64 ?_
          refine k_iload_n E 3 rfl rfl dX3_meanPay_65 ?_
          refine k_iload E 1 rfl dX3_meanPay_66 ?_
          refine k_if_eq E (tgt := 80) (by decide) dX3_meanPay_68 (fun _ => ?_) (fun h => absurd (by decide) h)
          refine k_iconst E (v := 0) (by decide) dX3_meanPay_80 ?_
          refine k_iadd E dX3_meanPay_81 ?_
          refine k_istore_n (lv' := [(2, .int (y + 0)), (1, .int (x + 0)), (4, .int 0), (0, .ref (a 0)), (3, .int (nI i))]) E rfl (by decide) rfl dX3_meanPay_82 ?_
          refine k_iinc (q := 4) (v := nI (i + 1)) (lv' := [(3, .int (nI (i + 1))), (2, .int (y + 0)), (1, .int (x + 0)), (4, .int 0), (0, .ref (a 0))]) E rfl (nI_inc _) (by decide) rfl dX3_meanPay_83 ?_
          refine k_goto E (tgt := 6) (by decide) dX3_meanPay_86 ?_
          refine k_lv [4, 2, 1, 0] rfl ?_
          exact ih6 (i + 1) (x + 0) (y + 0) (by omega) (by simp [sI, *]) (by simp [sI, *])
        · skip
          have c38 := kB_t c38
          refine k_iconst E (v := 1) (by decide) dX3_meanPay_41 ?_
          refine k_goto E (tgt := 46) (by decide) dX3_meanPay_42 ?_
          refine k_istore (lv' := [(4, .int 1), (0, .ref (a 0)), (1, .int x), (2, .int y), (3, .int (nI i))]) E (by decide) rfl dX3_meanPay_46 ?_
          refine k_iload_n E 2 rfl rfl dX3_meanPay_48 ?_
          refine k_iload E 0 rfl dX3_meanPay_49 ?_
          refine k_if_eq E (tgt := 62) (by decide) dX3_meanPay_51 (fun h => absurd h (by decide)) (fun _ => ?_)
          refine k_aload_n E 1 rfl rfl dX3_meanPay_54 ?_
          refine k_iload_n E 4 rfl rfl dX3_meanPay_55 ?_
          refine k_callRV [.int (nI i)] E (m_X3_payOf l D k a dy rooms tanks bests cows nf vrooms inv vsh nv ub vis rounds itk farm amount mark ways n nb thr i (by first | assumption | omega) (by first | assumption | omega)) cf_X3_payOf q_876 [0, 1, 2, 3, 4, 5, 6, 7, 8, 9, 10, 11, 12] rfl 0 rfl rfl rfl rfl ⟨by decide, by decide⟩ (Nat.le_of_ble_eq_true rfl) ⟨by decide, by decide⟩ dX3_meanPay_56 ?_
          refine k_steq (st' := [.int (payM ways mark amount n i), .int x]) rfl ?_
          refine k_goto E (tgt := 63) (by decide) dX3_meanPay_59 ?_
          refine k_iadd E dX3_meanPay_63 ?_
          refine k_istore_n (lv' := [(1, .int (x + (payM ways mark amount n i))), (4, .int 1), (0, .ref (a 0)), (2, .int y), (3, .int (nI i))]) E rfl (by decide) rfl dX3_meanPay_64 ?_
          refine k_iload_n E 3 rfl rfl dX3_meanPay_65 ?_
          refine k_iload E 1 rfl dX3_meanPay_66 ?_
          refine k_if_eq E (tgt := 80) (by decide) dX3_meanPay_68 (fun h => absurd h (by decide)) (fun _ => ?_)
          refine k_aload_n E 2 rfl rfl dX3_meanPay_71 ?_
          refine k_get E inX3 0 rfl rfl 15 (by decide) q_690 rfl rfl dX3_meanPay_72 ?_
          refine k_iload_n E 4 rfl rfl dX3_meanPay_75 ?_
          refine k_iald E (j := i) 10 0 rfl rfl rfl (by omega) (by decide) dX3_meanPay_76 ?_
          refine k_goto E (tgt := 81) (by decide) dX3_meanPay_77 ?_
          refine k_iadd E dX3_meanPay_81 ?_
          refine k_istore_n (lv' := [(2, .int (y + (amount i))), (1, .int (x + (payM ways mark amount n i))), (4, .int 1), (0, .ref (a 0)), (3, .int (nI i))]) E rfl (by decide) rfl dX3_meanPay_82 ?_
          refine k_iinc (q := 4) (v := nI (i + 1)) (lv' := [(3, .int (nI (i + 1))), (2, .int (y + (amount i))), (1, .int (x + (payM ways mark amount n i))), (4, .int 1), (0, .ref (a 0))]) E rfl (nI_inc _) (by decide) rfl dX3_meanPay_83 ?_
          refine k_goto E (tgt := 6) (by decide) dX3_meanPay_86 ?_
          refine k_lv [4, 2, 1, 0] rfl ?_
          exact ih6 (i + 1) (x + (payM ways mark amount n i)) (y + (amount i)) (by omega) (by simp [sI, *]) (by simp [sI, *])
  refine k_lv [3, 2, 1, 0] rfl ?_
  exact L6 (n - 0) 0 0 0 (by omega) rfl rfl
