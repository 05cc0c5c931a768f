set_option maxRecDepth 100000 in
set_option maxHeartbeats 4000000 in
theorem m_X2_requireFarm (l : Launch) (D : va_G) (k : Nat → ClassId) (a : Nat → Nat) (rr : Nat → Nat) (dy : Nat) (nv : Nat) (rounds : Int32) (ub : Bool) (nb : Nat) (vrooms : Nat → Int32) (vis : Nat → Int32) (nf : Nat) (rooms : Nat → Int32) (tanks : Nat → Int32) (cows : Nat → Int32) (bst : Nat → Nat → Int32) (n : Nat) (farm : Nat → Int32) (amount : Nat → Int32) (mark : Nat → Int32) (place : Nat → Int32) (number : Nat → Int32) (paid : Nat → Int32) (blamed : Nat → Int32) (j : Nat) (hj : j < nf) (hnf : nf ≤ 6) : mR l yX2_requireFarm cX2_requireFarm 2 none 6 100 D (kTy k) [.ref (a 0), .int (nI j)] (wMR k a rr (nI dy) (nI nv) rounds (kB ub) (nI nb) vrooms vis (nI nf) rooms tanks cows bst (nI n) farm amount mark place number paid blamed) none := by
  refine mR.of (lv' := [(0, .ref (a 0)), (1, .int (nI j))]) (by decide) (Nat.le_of_ble_eq_true rfl) rfl ?_
  intro p e s m args below meth c E hr hlk
  refine k_iload_n E 1 rfl rfl dX2_requireFarm_0 ?_
  refine k_if_lt E (tgt := 15) (by decide) dX2_requireFarm_1 (fun c1 => absurd ((nI_ltI (a := j) (b := 0) (by omega) (by omega)).mp c1) (by omega)) (fun c1 => ?_)
  have c1 := (not_congr (nI_ltI (a := j) (b := 0) (by omega) (by omega))).mp c1
  refine k_iload_n E 1 rfl rfl dX2_requireFarm_4 ?_
  refine k_aload_n E 0 rfl rfl dX2_requireFarm_5 ?_
  refine k_get E inX2 0 rfl rfl 1 (by decide) q_93 rfl rfl dX2_requireFarm_6 ?_
  refine k_getN E inX0 1 rfl rfl 0 (by decide) rfl (by decide +kernel) rfl rfl dX2_requireFarm_9 ?_
  refine k_icmp_lt E (tgt := 25) (by decide) dX2_requireFarm_12 (fun c12 => ?_) (fun c12 => absurd ((not_congr (nI_ltI (a := j) (b := nf) (by omega) (by omega))).mp c12) (by omega))
  have c12 := (nI_ltI (a := j) (b := nf) (by omega) (by omega)).mp c12
  exact kr_vret E hr hlk rfl dX2_requireFarm_25
set_option maxRecDepth 100000 in
set_option maxHeartbeats 4000000 in
theorem m_X2_requireFarm_b (l : Launch) (D : va_G) (k : Nat → ClassId) (a : Nat → Nat) (rr : Nat → Nat) (dy : Nat) (nv : Nat) (rounds : Int32) (ub : Bool) (nb : Nat) (vrooms : Nat → Int32) (vis : Nat → Int32) (nf : Nat) (rooms : Nat → Int32) (tanks : Nat → Int32) (cows : Nat → Int32) (bst : Nat → Nat → Int32) (n : Nat) (farm : Nat → Int32) (amount : Nat → Int32) (mark : Nat → Int32) (place : Nat → Int32) (number : Nat → Int32) (paid : Nat → Int32) (blamed : Nat → Int32) (fa : Int32) (hlt : l.stackTraces = false) (hb : fa < 0 ∨ nI nf ≤ fa) : mX l yX2_requireFarm cX2_requireFarm 2 none 6 100 1 6 D (kTy k) [.ref (a 0), .int fa] (wMR k a rr (nI dy) (nI nv) rounds (kB ub) (nI nb) vrooms vis (nI nf) rooms tanks cows bst (nI n) farm amount mark place number paid blamed) (.inr "java/lang/IndexOutOfBoundsException") := by
  refine mX.of (lv' := [(0, .ref (a 0)), (1, .int fa)]) (by decide) (Nat.le_of_ble_eq_true rfl) rfl ?_
  intro p e s m args below meth c E hr hlk hex hZ hA
  refine k_iload_n E 1 rfl rfl dX2_requireFarm_0 ?_
  refine k_if_lt E (tgt := 15) (by decide) dX2_requireFarm_1 (fun c1 => ?_) (fun c1 => ?_)
  · skip
    exact k_throw (cls := "java/lang/IndexOutOfBoundsException") (text := "no such farm") (names := ["java/lang/RuntimeException", "java/lang/Exception"]) (ic := 231) E hlt hlk hex hZ rfl rfl rfl (by decide +kernel) (by decide +kernel) q_280 q_10 (by decide +kernel) gx_IndexOutOfBoundsException bx_IndexOutOfBoundsException ox_IndexOutOfBoundsException dX2_requireFarm_15 dX2_requireFarm_18 dX2_requireFarm_19 dX2_requireFarm_21 dX2_requireFarm_24 (by decide) (Nat.le_of_ble_eq_true rfl) (by decide) (by decide) (by decide) (by decide)
  · skip
    refine k_iload_n E 1 rfl rfl dX2_requireFarm_4 ?_
    refine k_aload_n E 0 rfl rfl dX2_requireFarm_5 ?_
    refine k_get E inX2 0 rfl rfl 1 (by decide) q_93 rfl rfl dX2_requireFarm_6 ?_
    refine k_getN E inX0 1 rfl rfl 0 (by decide) rfl (by decide +kernel) rfl rfl dX2_requireFarm_9 ?_
    refine k_icmp_lt E (tgt := 25) (by decide) dX2_requireFarm_12 (fun c12 => absurd c12 (Int32.not_lt.mpr (hb.resolve_left c1))) (fun c12 => ?_)
    exact k_throw (cls := "java/lang/IndexOutOfBoundsException") (text := "no such farm") (names := ["java/lang/RuntimeException", "java/lang/Exception"]) (ic := 231) E hlt hlk hex hZ rfl rfl rfl (by decide +kernel) (by decide +kernel) q_280 q_10 (by decide +kernel) gx_IndexOutOfBoundsException bx_IndexOutOfBoundsException ox_IndexOutOfBoundsException dX2_requireFarm_15 dX2_requireFarm_18 dX2_requireFarm_19 dX2_requireFarm_21 dX2_requireFarm_24 (by decide) (Nat.le_of_ble_eq_true rfl) (by decide) (by decide) (by decide) (by decide)
set_option maxRecDepth 100000 in
set_option maxHeartbeats 4000000 in
theorem m_X2_requireVat (l : Launch) (D : va_G) (k : Nat → ClassId) (a : Nat → Nat) (rr : Nat → Nat) (dy : Nat) (nv : Nat) (rounds : Int32) (ub : Bool) (nb : Nat) (vrooms : Nat → Int32) (vis : Nat → Int32) (nf : Nat) (rooms : Nat → Int32) (tanks : Nat → Int32) (cows : Nat → Int32) (bst : Nat → Nat → Int32) (n : Nat) (farm : Nat → Int32) (amount : Nat → Int32) (mark : Nat → Int32) (place : Nat → Int32) (number : Nat → Int32) (paid : Nat → Int32) (blamed : Nat → Int32) (j : Nat) (hj : j < nv) (hnv : nv ≤ 4) : mR l yX2_requireVat cX2_requireVat 2 none 6 100 D (kTy k) [.ref (a 0), .int (nI j)] (wMR k a rr (nI dy) (nI nv) rounds (kB ub) (nI nb) vrooms vis (nI nf) rooms tanks cows bst (nI n) farm amount mark place number paid blamed) none := by
  refine mR.of (lv' := [(0, .ref (a 0)), (1, .int (nI j))]) (by decide) (Nat.le_of_ble_eq_true rfl) rfl ?_
  intro p e s m args below meth c E hr hlk
  refine k_iload_n E 1 rfl rfl dX2_requireVat_0 ?_
  refine k_if_lt E (tgt := 12) (by decide) dX2_requireVat_1 (fun c1 => absurd ((nI_ltI (a := j) (b := 0) (by omega) (by omega)).mp c1) (by omega)) (fun c1 => ?_)
  have c1 := (not_congr (nI_ltI (a := j) (b := 0) (by omega) (by omega))).mp c1
  refine k_iload_n E 1 rfl rfl dX2_requireVat_4 ?_
  refine k_aload_n E 0 rfl rfl dX2_requireVat_5 ?_
  refine k_get E inX2 0 rfl rfl 2 (by decide) q_94 rfl rfl dX2_requireVat_6 ?_
  refine k_icmp_lt E (tgt := 22) (by decide) dX2_requireVat_9 (fun c9 => ?_) (fun c9 => absurd ((not_congr (nI_ltI (a := j) (b := nv) (by omega) (by omega))).mp c9) (by omega))
  have c9 := (nI_ltI (a := j) (b := nv) (by omega) (by omega)).mp c9
  exact kr_vret E hr hlk rfl dX2_requireVat_22
set_option maxRecDepth 100000 in
set_option maxHeartbeats 4000000 in
theorem m_X2_requireVat_b (l : Launch) (D : va_G) (k : Nat → ClassId) (a : Nat → Nat) (rr : Nat → Nat) (dy : Nat) (nv : Nat) (rounds : Int32) (ub : Bool) (nb : Nat) (vrooms : Nat → Int32) (vis : Nat → Int32) (nf : Nat) (rooms : Nat → Int32) (tanks : Nat → Int32) (cows : Nat → Int32) (bst : Nat → Nat → Int32) (n : Nat) (farm : Nat → Int32) (amount : Nat → Int32) (mark : Nat → Int32) (place : Nat → Int32) (number : Nat → Int32) (paid : Nat → Int32) (blamed : Nat → Int32) (fa : Int32) (hlt : l.stackTraces = false) (hb : fa < 0 ∨ nI nv ≤ fa) : mX l yX2_requireVat cX2_requireVat 2 none 6 100 1 6 D (kTy k) [.ref (a 0), .int fa] (wMR k a rr (nI dy) (nI nv) rounds (kB ub) (nI nb) vrooms vis (nI nf) rooms tanks cows bst (nI n) farm amount mark place number paid blamed) (.inr "java/lang/IndexOutOfBoundsException") := by
  refine mX.of (lv' := [(0, .ref (a 0)), (1, .int fa)]) (by decide) (Nat.le_of_ble_eq_true rfl) rfl ?_
  intro p e s m args below meth c E hr hlk hex hZ hA
  refine k_iload_n E 1 rfl rfl dX2_requireVat_0 ?_
  refine k_if_lt E (tgt := 12) (by decide) dX2_requireVat_1 (fun c1 => ?_) (fun c1 => ?_)
  · skip
    exact k_throw (cls := "java/lang/IndexOutOfBoundsException") (text := "no such vat") (names := ["java/lang/RuntimeException", "java/lang/Exception"]) (ic := 231) E hlt hlk hex hZ rfl rfl rfl (by decide +kernel) (by decide +kernel) q_280 q_10 (by decide +kernel) gx_IndexOutOfBoundsException bx_IndexOutOfBoundsException ox_IndexOutOfBoundsException dX2_requireVat_12 dX2_requireVat_15 dX2_requireVat_16 dX2_requireVat_18 dX2_requireVat_21 (by decide) (Nat.le_of_ble_eq_true rfl) (by decide) (by decide) (by decide) (by decide)
  · skip
    refine k_iload_n E 1 rfl rfl dX2_requireVat_4 ?_
    refine k_aload_n E 0 rfl rfl dX2_requireVat_5 ?_
    refine k_get E inX2 0 rfl rfl 2 (by decide) q_94 rfl rfl dX2_requireVat_6 ?_
    refine k_icmp_lt E (tgt := 22) (by decide) dX2_requireVat_9 (fun c9 => absurd c9 (Int32.not_lt.mpr (hb.resolve_left c1))) (fun c9 => ?_)
    exact k_throw (cls := "java/lang/IndexOutOfBoundsException") (text := "no such vat") (names := ["java/lang/RuntimeException", "java/lang/Exception"]) (ic := 231) E hlt hlk hex hZ rfl rfl rfl (by decide +kernel) (by decide +kernel) q_280 q_10 (by decide +kernel) gx_IndexOutOfBoundsException bx_IndexOutOfBoundsException ox_IndexOutOfBoundsException dX2_requireVat_12 dX2_requireVat_15 dX2_requireVat_16 dX2_requireVat_18 dX2_requireVat_21 (by decide) (Nat.le_of_ble_eq_true rfl) (by decide) (by decide) (by decide) (by decide)
set_option maxRecDepth 100000 in
set_option maxHeartbeats 4000000 in
theorem m_X2_requireSample (l : Launch) (D : va_G) (k : Nat → ClassId) (a : Nat → Nat) (rr : Nat → Nat) (dy : Nat) (nv : Nat) (rounds : Int32) (ub : Bool) (nb : Nat) (vrooms : Nat → Int32) (vis : Nat → Int32) (nf : Nat) (rooms : Nat → Int32) (tanks : Nat → Int32) (cows : Nat → Int32) (bst : Nat → Nat → Int32) (n : Nat) (farm : Nat → Int32) (amount : Nat → Int32) (mark : Nat → Int32) (place : Nat → Int32) (number : Nat → Int32) (paid : Nat → Int32) (blamed : Nat → Int32) (j : Nat) (hj : j < n) (hn : n ≤ 100) : mR l yX2_requireSample cX2_requireSample 2 none 6 100 D (kTy k) [.ref (a 0), .int (nI j)] (wMR k a rr (nI dy) (nI nv) rounds (kB ub) (nI nb) vrooms vis (nI nf) rooms tanks cows bst (nI n) farm amount mark place number paid blamed) none := by
  refine mR.of (lv' := [(0, .ref (a 0)), (1, .int (nI j))]) (by decide) (Nat.le_of_ble_eq_true rfl) rfl ?_
  intro p e s m args below meth c E hr hlk
  refine k_iload_n E 1 rfl rfl dX2_requireSample_0 ?_
  refine k_if_lt E (tgt := 15) (by decide) dX2_requireSample_1 (fun c1 => absurd ((nI_ltI (a := j) (b := 0) (by omega) (by omega)).mp c1) (by omega)) (fun c1 => ?_)
  have c1 := (not_congr (nI_ltI (a := j) (b := 0) (by omega) (by omega))).mp c1
  refine k_iload_n E 1 rfl rfl dX2_requireSample_4 ?_
  refine k_aload_n E 0 rfl rfl dX2_requireSample_5 ?_
  refine k_get E inX2 0 rfl rfl 7 (by decide) q_99 rfl rfl dX2_requireSample_6 ?_
  refine k_getN E inX1 14 rfl rfl 0 (by decide) rfl (by decide +kernel) rfl rfl dX2_requireSample_9 ?_
  refine k_icmp_lt E (tgt := 25) (by decide) dX2_requireSample_12 (fun c12 => ?_) (fun c12 => absurd ((not_congr (nI_ltI (a := j) (b := n) (by omega) (by omega))).mp c12) (by omega))
  have c12 := (nI_ltI (a := j) (b := n) (by omega) (by omega)).mp c12
  exact kr_vret E hr hlk rfl dX2_requireSample_25
set_option maxRecDepth 100000 in
set_option maxHeartbeats 4000000 in
theorem m_X2_requireSample_b (l : Launch) (D : va_G) (k : Nat → ClassId) (a : Nat → Nat) (rr : Nat → Nat) (dy : Nat) (nv : Nat) (rounds : Int32) (ub : Bool) (nb : Nat) (vrooms : Nat → Int32) (vis : Nat → Int32) (nf : Nat) (rooms : Nat → Int32) (tanks : Nat → Int32) (cows : Nat → Int32) (bst : Nat → Nat → Int32) (n : Nat) (farm : Nat → Int32) (amount : Nat → Int32) (mark : Nat → Int32) (place : Nat → Int32) (number : Nat → Int32) (paid : Nat → Int32) (blamed : Nat → Int32) (fa : Int32) (hlt : l.stackTraces = false) (hb : fa < 0 ∨ nI n ≤ fa) : mX l yX2_requireSample cX2_requireSample 2 none 6 100 1 6 D (kTy k) [.ref (a 0), .int fa] (wMR k a rr (nI dy) (nI nv) rounds (kB ub) (nI nb) vrooms vis (nI nf) rooms tanks cows bst (nI n) farm amount mark place number paid blamed) (.inr "java/lang/IndexOutOfBoundsException") := by
  refine mX.of (lv' := [(0, .ref (a 0)), (1, .int fa)]) (by decide) (Nat.le_of_ble_eq_true rfl) rfl ?_
  intro p e s m args below meth c E hr hlk hex hZ hA
  refine k_iload_n E 1 rfl rfl dX2_requireSample_0 ?_
  refine k_if_lt E (tgt := 15) (by decide) dX2_requireSample_1 (fun c1 => ?_) (fun c1 => ?_)
  · skip
    exact k_throw (cls := "java/lang/IndexOutOfBoundsException") (text := "no such sample") (names := ["java/lang/RuntimeException", "java/lang/Exception"]) (ic := 231) E hlt hlk hex hZ rfl rfl rfl (by decide +kernel) (by decide +kernel) q_280 q_10 (by decide +kernel) gx_IndexOutOfBoundsException bx_IndexOutOfBoundsException ox_IndexOutOfBoundsException dX2_requireSample_15 dX2_requireSample_18 dX2_requireSample_19 dX2_requireSample_21 dX2_requireSample_24 (by decide) (Nat.le_of_ble_eq_true rfl) (by decide) (by decide) (by decide) (by decide)
  · skip
    refine k_iload_n E 1 rfl rfl dX2_requireSample_4 ?_
    refine k_aload_n E 0 rfl rfl dX2_requireSample_5 ?_
    refine k_get E inX2 0 rfl rfl 7 (by decide) q_99 rfl rfl dX2_requireSample_6 ?_
    refine k_getN E inX1 14 rfl rfl 0 (by decide) rfl (by decide +kernel) rfl rfl dX2_requireSample_9 ?_
    refine k_icmp_lt E (tgt := 25) (by decide) dX2_requireSample_12 (fun c12 => absurd c12 (Int32.not_lt.mpr (hb.resolve_left c1))) (fun c12 => ?_)
    exact k_throw (cls := "java/lang/IndexOutOfBoundsException") (text := "no such sample") (names := ["java/lang/RuntimeException", "java/lang/Exception"]) (ic := 231) E hlt hlk hex hZ rfl rfl rfl (by decide +kernel) (by decide +kernel) q_280 q_10 (by decide +kernel) gx_IndexOutOfBoundsException bx_IndexOutOfBoundsException ox_IndexOutOfBoundsException dX2_requireSample_15 dX2_requireSample_18 dX2_requireSample_19 dX2_requireSample_21 dX2_requireSample_24 (by decide) (Nat.le_of_ble_eq_true rfl) (by decide) (by decide) (by decide) (by decide)
set_option maxRecDepth 100000 in
set_option maxHeartbeats 4000000 in
theorem m_X2_requireBatch (l : Launch) (D : va_G) (k : Nat → ClassId) (a : Nat → Nat) (rr : Nat → Nat) (dy : Nat) (nv : Nat) (rounds : Int32) (ub : Bool) (nb : Nat) (vrooms : Nat → Int32) (vis : Nat → Int32) (nf : Nat) (rooms : Nat → Int32) (tanks : Nat → Int32) (cows : Nat → Int32) (bst : Nat → Nat → Int32) (n : Nat) (farm : Nat → Int32) (amount : Nat → Int32) (mark : Nat → Int32) (place : Nat → Int32) (number : Nat → Int32) (paid : Nat → Int32) (blamed : Nat → Int32) (j : Nat) (hj : j < nb) (hnb : nb ≤ 20) : mR l yX2_requireBatch cX2_requireBatch 2 none 6 100 D (kTy k) [.ref (a 0), .int (nI j)] (wMR k a rr (nI dy) (nI nv) rounds (kB ub) (nI nb) vrooms vis (nI nf) rooms tanks cows bst (nI n) farm amount mark place number paid blamed) none := by
  refine mR.of (lv' := [(0, .ref (a 0)), (1, .int (nI j))]) (by decide) (Nat.le_of_ble_eq_true rfl) rfl ?_
  intro p e s m args below meth c E hr hlk
  refine k_iload_n E 1 rfl rfl dX2_requireBatch_0 ?_
  refine k_if_lt E (tgt := 12) (by decide) dX2_requireBatch_1 (fun c1 => absurd ((nI_ltI (a := j) (b := 0) (by omega) (by omega)).mp c1) (by omega)) (fun c1 => ?_)
  have c1 := (not_congr (nI_ltI (a := j) (b := 0) (by omega) (by omega))).mp c1
  refine k_iload_n E 1 rfl rfl dX2_requireBatch_4 ?_
  refine k_aload_n E 0 rfl rfl dX2_requireBatch_5 ?_
  refine k_get E inX2 0 rfl rfl 8 (by decide) q_100 rfl rfl dX2_requireBatch_6 ?_
  refine k_icmp_lt E (tgt := 22) (by decide) dX2_requireBatch_9 (fun c9 => ?_) (fun c9 => absurd ((not_congr (nI_ltI (a := j) (b := nb) (by omega) (by omega))).mp c9) (by omega))
  have c9 := (nI_ltI (a := j) (b := nb) (by omega) (by omega)).mp c9
  exact kr_vret E hr hlk rfl dX2_requireBatch_22
set_option maxRecDepth 100000 in
set_option maxHeartbeats 4000000 in
theorem m_X2_requireBatch_b (l : Launch) (D : va_G) (k : Nat → ClassId) (a : Nat → Nat) (rr : Nat → Nat) (dy : Nat) (nv : Nat) (rounds : Int32) (ub : Bool) (nb : Nat) (vrooms : Nat → Int32) (vis : Nat → Int32) (nf : Nat) (rooms : Nat → Int32) (tanks : Nat → Int32) (cows : Nat → Int32) (bst : Nat → Nat → Int32) (n : Nat) (farm : Nat → Int32) (amount : Nat → Int32) (mark : Nat → Int32) (place : Nat → Int32) (number : Nat → Int32) (paid : Nat → Int32) (blamed : Nat → Int32) (fa : Int32) (hlt : l.stackTraces = false) (hb : fa < 0 ∨ nI nb ≤ fa) : mX l yX2_requireBatch cX2_requireBatch 2 none 6 100 1 6 D (kTy k) [.ref (a 0), .int fa] (wMR k a rr (nI dy) (nI nv) rounds (kB ub) (nI nb) vrooms vis (nI nf) rooms tanks cows bst (nI n) farm amount mark place number paid blamed) (.inr "java/lang/IndexOutOfBoundsException") := by
  refine mX.of (lv' := [(0, .ref (a 0)), (1, .int fa)]) (by decide) (Nat.le_of_ble_eq_true rfl) rfl ?_
  intro p e s m args below meth c E hr hlk hex hZ hA
  refine k_iload_n E 1 rfl rfl dX2_requireBatch_0 ?_
  refine k_if_lt E (tgt := 12) (by decide) dX2_requireBatch_1 (fun c1 => ?_) (fun c1 => ?_)
  · skip
    exact k_throw (cls := "java/lang/IndexOutOfBoundsException") (text := "no such batch") (names := ["java/lang/RuntimeException", "java/lang/Exception"]) (ic := 231) E hlt hlk hex hZ rfl rfl rfl (by decide +kernel) (by decide +kernel) q_280 q_10 (by decide +kernel) gx_IndexOutOfBoundsException bx_IndexOutOfBoundsException ox_IndexOutOfBoundsException dX2_requireBatch_12 dX2_requireBatch_15 dX2_requireBatch_16 dX2_requireBatch_18 dX2_requireBatch_21 (by decide) (Nat.le_of_ble_eq_true rfl) (by decide) (by decide) (by decide) (by decide)
  · skip
    refine k_iload_n E 1 rfl rfl dX2_requireBatch_4 ?_
    refine k_aload_n E 0 rfl rfl dX2_requireBatch_5 ?_
    refine k_get E inX2 0 rfl rfl 8 (by decide) q_100 rfl rfl dX2_requireBatch_6 ?_
    refine k_icmp_lt E (tgt := 22) (by decide) dX2_requireBatch_9 (fun c9 => absurd c9 (Int32.not_lt.mpr (hb.resolve_left c1))) (fun c9 => ?_)
    exact k_throw (cls := "java/lang/IndexOutOfBoundsException") (text := "no such batch") (names := ["java/lang/RuntimeException", "java/lang/Exception"]) (ic := 231) E hlt hlk hex hZ rfl rfl rfl (by decide +kernel) (by decide +kernel) q_280 q_10 (by decide +kernel) gx_IndexOutOfBoundsException bx_IndexOutOfBoundsException ox_IndexOutOfBoundsException dX2_requireBatch_12 dX2_requireBatch_15 dX2_requireBatch_16 dX2_requireBatch_18 dX2_requireBatch_21 (by decide) (Nat.le_of_ble_eq_true rfl) (by decide) (by decide) (by decide) (by decide)
set_option maxRecDepth 100000 in
set_option maxHeartbeats 4000000 in
theorem m_X2_addFarm (l : Launch) (D : va_G) (k : Nat → ClassId) (a : Nat → Nat) (rr : Nat → Nat) (dy : Nat) (nv : Nat) (rounds : Int32) (ub : Bool) (nb : Nat) (vrooms : Nat → Int32) (vis : Nat → Int32) (nf : Nat) (rooms : Nat → Int32) (tanks : Nat → Int32) (cows : Nat → Int32) (bst : Nat → Nat → Int32) (n : Nat) (farm : Nat → Int32) (amount : Nat → Int32) (mark : Nat → Int32) (place : Nat → Int32) (number : Nat → Int32) (paid : Nat → Int32) (blamed : Nat → Int32) (room : Int32) (h1 : ¬ room < 10) (h2 : room ≤ 200) (hn : nf < 6) : mW l yX2_addFarm cX2_addFarm 2 (some .int) 6 100 0 0 D (kTy k) [.ref (a 0), .int room] (wMR k a rr (nI dy) (nI nv) rounds (kB ub) (nI nb) vrooms vis (nI nf) rooms tanks cows bst (nI n) farm amount mark place number paid blamed) (some (.int (nI nf))) (wMR k a rr (nI dy) (nI nv) rounds (kB ub) (nI nb) vrooms vis (nI (nf + 1)) (upd rooms nf room) tanks cows bst (nI n) farm amount mark place number paid blamed) := by
  refine mW.of (lv' := [(0, .ref (a 0)), (1, .int room)]) (by decide) (Nat.le_of_ble_eq_true rfl) rfl ?_
  intro p e s m args below meth c E hr hlk hm hA
  refine k_iload_n E 1 rfl rfl dX2_addFarm_0 ?_
  refine k_bipush E (v := 10) (by decide) dX2_addFarm_1 ?_
  refine k_icmp_lt E (tgt := 13) (by decide) dX2_addFarm_3 (fun c3 => absurd c3 h1) (fun c3 => ?_)
  refine k_iload_n E 1 rfl rfl dX2_addFarm_6 ?_
  refine k_sipush E (v := 200) (by decide) dX2_addFarm_7 ?_
  refine k_icmp_le E (tgt := 23) (by decide) dX2_addFarm_10 (fun c10 => ?_) (fun c10 => absurd c10 (not_not_intro h2))
  refine k_aload_n E 0 rfl rfl dX2_addFarm_23 ?_
  refine k_get E inX2 0 rfl rfl 1 (by decide) q_93 rfl rfl dX2_addFarm_24 ?_
  refine k_getN E inX0 1 rfl rfl 0 (by decide) rfl (by decide +kernel) rfl rfl dX2_addFarm_27 ?_
  refine k_bipush E (v := 6) (by decide) dX2_addFarm_30 ?_
  refine k_icmp_lt E (tgt := 45) (by decide) dX2_addFarm_32 (fun c32 => ?_) (fun c32 => absurd ((not_congr (nI_ltI (a := nf) (b := 6) (by omega) (by omega))).mp c32) (by omega))
  have c32 := (nI_ltI (a := nf) (b := 6) (by omega) (by omega)).mp c32
  refine k_aload_n E 0 rfl rfl dX2_addFarm_45 ?_
  refine k_get E inX2 0 rfl rfl 1 (by decide) q_93 rfl rfl dX2_addFarm_46 ?_
  refine k_iload_n E 1 rfl rfl dX2_addFarm_49 ?_
  refine k_callWVN [.int room] E hA (m_X0_add l D k (a 1) (a 2) (a 3) (a 4) (a 5) rr nf rooms tanks cows bst room (by first | assumption | omega)) cf_X0_add rfl (by decide +kernel) [oMR a (nI dy) (nI nv) rounds (kB ub) (nI nb)] (yMR k a vrooms vis (nI n) farm amount mark place number paid blamed) (ws' := (wMR k a rr (nI dy) (nI nv) rounds (kB ub) (nI nb) vrooms vis (nI (nf + 1)) (upd rooms nf room) tanks cows bst (nI n) farm amount mark place number paid blamed)) rfl rfl 1 rfl rfl rfl rfl ⟨by decide, by decide⟩ (Nat.le_of_ble_eq_true rfl) ⟨by decide, by decide⟩ dX2_addFarm_50 ?_
  refine k_steq (st' := [.int (nI nf)]) rfl ?_
  exact kw_iret E hr hlk rfl rfl (by decide) (by decide) dX2_addFarm_53
set_option maxRecDepth 100000 in
set_option maxHeartbeats 4000000 in
theorem m_X2_addFarm_a (l : Launch) (D : va_G) (k : Nat → ClassId) (a : Nat → Nat) (rr : Nat → Nat) (dy : Nat) (nv : Nat) (rounds : Int32) (ub : Bool) (nb : Nat) (vrooms : Nat → Int32) (vis : Nat → Int32) (nf : Nat) (rooms : Nat → Int32) (tanks : Nat → Int32) (cows : Nat → Int32) (bst : Nat → Nat → Int32) (n : Nat) (farm : Nat → Int32) (amount : Nat → Int32) (mark : Nat → Int32) (place : Nat → Int32) (number : Nat → Int32) (paid : Nat → Int32) (blamed : Nat → Int32) (room : Int32) (hlt : l.stackTraces = false) (hb : room < 10 ∨ 200 < room) : mX l yX2_addFarm cX2_addFarm 2 (some .int) 6 100 1 6 D (kTy k) [.ref (a 0), .int room] (wMR k a rr (nI dy) (nI nv) rounds (kB ub) (nI nb) vrooms vis (nI nf) rooms tanks cows bst (nI n) farm amount mark place number paid blamed) (.inr "java/lang/IllegalArgumentException") := by
  refine mX.of (lv' := [(0, .ref (a 0)), (1, .int room)]) (by decide) (Nat.le_of_ble_eq_true rfl) rfl ?_
  intro p e s m args below meth c E hr hlk hex hZ hA
  refine k_iload_n E 1 rfl rfl dX2_addFarm_0 ?_
  refine k_bipush E (v := 10) (by decide) dX2_addFarm_1 ?_
  refine k_icmp_lt E (tgt := 13) (by decide) dX2_addFarm_3 (fun c3 => ?_) (fun c3 => ?_)
  · skip
    exact k_throw (cls := "java/lang/IllegalArgumentException") (text := "a tank holds 10 to 200 litres") (names := ["java/lang/RuntimeException", "java/lang/Exception"]) (ic := 52) E hlt hlk hex hZ rfl rfl rfl (by decide +kernel) (by decide +kernel) q_153 q_8 (by decide +kernel) gx_IllegalArgumentException bx_IllegalArgumentException ox_IllegalArgumentException dX2_addFarm_13 dX2_addFarm_16 dX2_addFarm_17 dX2_addFarm_19 dX2_addFarm_22 (by decide) (Nat.le_of_ble_eq_true rfl) (by decide) (by decide) (by decide) (by decide)
  · skip
    refine k_iload_n E 1 rfl rfl dX2_addFarm_6 ?_
    refine k_sipush E (v := 200) (by decide) dX2_addFarm_7 ?_
    refine k_icmp_le E (tgt := 23) (by decide) dX2_addFarm_10 (fun c10 => absurd c10 (Int32.not_le.mpr (hb.resolve_left c3))) (fun c10 => ?_)
    exact k_throw (cls := "java/lang/IllegalArgumentException") (text := "a tank holds 10 to 200 litres") (names := ["java/lang/RuntimeException", "java/lang/Exception"]) (ic := 52) E hlt hlk hex hZ rfl rfl rfl (by decide +kernel) (by decide +kernel) q_153 q_8 (by decide +kernel) gx_IllegalArgumentException bx_IllegalArgumentException ox_IllegalArgumentException dX2_addFarm_13 dX2_addFarm_16 dX2_addFarm_17 dX2_addFarm_19 dX2_addFarm_22 (by decide) (Nat.le_of_ble_eq_true rfl) (by decide) (by decide) (by decide) (by decide)
set_option maxRecDepth 100000 in
set_option maxHeartbeats 4000000 in
theorem m_X2_addFarm_s (l : Launch) (D : va_G) (k : Nat → ClassId) (a : Nat → Nat) (rr : Nat → Nat) (dy : Nat) (nv : Nat) (rounds : Int32) (ub : Bool) (nb : Nat) (vrooms : Nat → Int32) (vis : Nat → Int32) (nf : Nat) (rooms : Nat → Int32) (tanks : Nat → Int32) (cows : Nat → Int32) (bst : Nat → Nat → Int32) (n : Nat) (farm : Nat → Int32) (amount : Nat → Int32) (mark : Nat → Int32) (place : Nat → Int32) (number : Nat → Int32) (paid : Nat → Int32) (blamed : Nat → Int32) (room : Int32) (hlt : l.stackTraces = false) (h1 : ¬ room < 10) (h2 : room ≤ 200) (hn : nf = 6) : mX l yX2_addFarm cX2_addFarm 2 (some .int) 6 100 1 6 D (kTy k) [.ref (a 0), .int room] (wMR k a rr (nI dy) (nI nv) rounds (kB ub) (nI nb) vrooms vis (nI nf) rooms tanks cows bst (nI n) farm amount mark place number paid blamed) (.inr "java/lang/IllegalStateException") := by
  refine mX.of (lv' := [(0, .ref (a 0)), (1, .int room)]) (by decide) (Nat.le_of_ble_eq_true rfl) rfl ?_
  intro p e s m args below meth c E hr hlk hex hZ hA
  refine k_iload_n E 1 rfl rfl dX2_addFarm_0 ?_
  refine k_bipush E (v := 10) (by decide) dX2_addFarm_1 ?_
  refine k_icmp_lt E (tgt := 13) (by decide) dX2_addFarm_3 (fun c3 => absurd c3 h1) (fun c3 => ?_)
  refine k_iload_n E 1 rfl rfl dX2_addFarm_6 ?_
  refine k_sipush E (v := 200) (by decide) dX2_addFarm_7 ?_
  refine k_icmp_le E (tgt := 23) (by decide) dX2_addFarm_10 (fun c10 => ?_) (fun c10 => absurd c10 (not_not_intro h2))
  refine k_aload_n E 0 rfl rfl dX2_addFarm_23 ?_
  refine k_get E inX2 0 rfl rfl 1 (by decide) q_93 rfl rfl dX2_addFarm_24 ?_
  refine k_getN E inX0 1 rfl rfl 0 (by decide) rfl (by decide +kernel) rfl rfl dX2_addFarm_27 ?_
  refine k_bipush E (v := 6) (by decide) dX2_addFarm_30 ?_
  refine k_icmp_lt E (tgt := 45) (by decide) dX2_addFarm_32 (fun c32 => absurd ((nI_ltI (a := nf) (b := 6) (by omega) (by omega)).mp c32) (by omega)) (fun c32 => ?_)
  have c32 := (not_congr (nI_ltI (a := nf) (b := 6) (by omega) (by omega))).mp c32
  exact k_throw (cls := "java/lang/IllegalStateException") (text := "there are 6 farms") (names := ["java/lang/RuntimeException", "java/lang/Exception"]) (ic := 62) E hlt hlk hex hZ rfl rfl rfl (by decide +kernel) (by decide +kernel) q_225 q_9 (by decide +kernel) gx_IllegalStateException bx_IllegalStateException ox_IllegalStateException dX2_addFarm_35 dX2_addFarm_38 dX2_addFarm_39 dX2_addFarm_41 dX2_addFarm_44 (by decide) (Nat.le_of_ble_eq_true rfl) (by decide) (by decide) (by decide) (by decide)
set_option maxRecDepth 100000 in
set_option maxHeartbeats 4000000 in
theorem m_X2_addCow (l : Launch) (D : va_G) (k : Nat → ClassId) (a : Nat → Nat) (rr : Nat → Nat) (dy : Nat) (nv : Nat) (rounds : Int32) (ub : Bool) (nb : Nat) (vrooms : Nat → Int32) (vis : Nat → Int32) (nf : Nat) (rooms : Nat → Int32) (tanks : Nat → Int32) (cows : Nat → Int32) (bst : Nat → Nat → Int32) (n : Nat) (farm : Nat → Int32) (amount : Nat → Int32) (mark : Nat → Int32) (place : Nat → Int32) (number : Nat → Int32) (paid : Nat → Int32) (blamed : Nat → Int32) (j : Nat) (best : Int32) (cz : Nat) (hj : j < nf) (hnf : nf ≤ 6) (h1 : ¬ best < 5) (h2 : best ≤ 30) (hc : cows j = nI cz) (hc5 : cz < 5) : mW l yX2_addCow cX2_addCow 3 (some .int) 7 121 0 0 D (kTy k) [.ref (a 0), .int (nI j), .int best] (wMR k a rr (nI dy) (nI nv) rounds (kB ub) (nI nb) vrooms vis (nI nf) rooms tanks cows bst (nI n) farm amount mark place number paid blamed) (some (.int (nI (cz + 1)))) (wMR k a rr (nI dy) (nI nv) rounds (kB ub) (nI nb) vrooms vis (nI nf) rooms tanks (upd cows j (nI (cz + 1))) (fun i => if i = j then upd (bst j) cz best else bst i) (nI n) farm amount mark place number paid blamed) := by
  refine mW.of (lv' := [(0, .ref (a 0)), (1, .int (nI j)), (2, .int best)]) (by decide) (Nat.le_of_ble_eq_true rfl) rfl ?_
  intro p e s m args below meth c E hr hlk hm hA
  refine k_aload_n E 0 rfl rfl dX2_addCow_0 ?_
  refine k_iload_n E 1 rfl rfl dX2_addCow_1 ?_
  refine k_callRV [.int (nI j)] E (m_X2_requireFarm l D k a rr dy nv rounds ub nb vrooms vis nf rooms tanks cows bst n farm amount mark place number paid blamed j (by first | assumption | omega) (by first | assumption | omega)) cf_X2_requireFarm q_276 [0, 1, 2, 3, 4, 5, 6, 7, 8, 9, 10, 11, 12, 13, 14, 15, 16, 17, 18, 19, 20, 21] rfl 0 rfl rfl rfl rfl ⟨by decide, by decide⟩ (Nat.le_of_ble_eq_true rfl) ⟨by decide, by decide⟩ dX2_addCow_2 ?_
  refine k_steq (st' := []) rfl ?_
  refine k_iload_n E 2 rfl rfl dX2_addCow_5 ?_
  refine k_iconst E (v := 5) (by decide) dX2_addCow_6 ?_
  refine k_icmp_lt E (tgt := 16) (by decide) dX2_addCow_7 (fun c7 => absurd c7 h1) (fun c7 => ?_)
  refine k_iload_n E 2 rfl rfl dX2_addCow_10 ?_
  refine k_bipush E (v := 30) (by decide) dX2_addCow_11 ?_
  refine k_icmp_le E (tgt := 26) (by decide) dX2_addCow_13 (fun c13 => ?_) (fun c13 => absurd c13 (not_not_intro h2))
  refine k_aload_n E 0 rfl rfl dX2_addCow_26 ?_
  refine k_get E inX2 0 rfl rfl 1 (by decide) q_93 rfl rfl dX2_addCow_27 ?_
  refine k_getN E inX0 1 rfl rfl 3 (by decide) rfl (by decide +kernel) rfl rfl dX2_addCow_30 ?_
  refine k_iload_n E 1 rfl rfl dX2_addCow_33 ?_
  refine k_iald E (j := j) 4 0 rfl rfl rfl (by omega) (by decide) dX2_addCow_34 ?_
  refine k_steq (st' := [.int (nI cz)]) (by rw [show cows j = nI cz from hc]) ?_
  refine k_iconst E (v := 5) (by decide) dX2_addCow_35 ?_
  refine k_icmp_lt E (tgt := 49) (by decide) dX2_addCow_36 (fun c36 => ?_) (fun c36 => absurd ((not_congr (nI_ltI (a := cz) (b := 5) (by omega) (by omega))).mp c36) (by omega))
  have c36 := (nI_ltI (a := cz) (b := 5) (by omega) (by omega)).mp c36
  refine k_aload_n E 0 rfl rfl dX2_addCow_49 ?_
  refine k_get E inX2 0 rfl rfl 1 (by decide) q_93 rfl rfl dX2_addCow_50 ?_
  refine k_iload_n E 1 rfl rfl dX2_addCow_53 ?_
  refine k_iload_n E 2 rfl rfl dX2_addCow_54 ?_
  refine k_callWVN [.int (nI j), .int best] E hA (m_X0_addCowTo l D k (a 1) (a 2) (a 3) (a 4) (a 5) rr nf rooms tanks cows bst j cz best (by first | assumption | omega) (by first | assumption | omega) (by first | assumption | omega)) cf_X0_addCowTo rfl (by decide +kernel) [oMR a (nI dy) (nI nv) rounds (kB ub) (nI nb)] (yMR k a vrooms vis (nI n) farm amount mark place number paid blamed) (ws' := (wMR k a rr (nI dy) (nI nv) rounds (kB ub) (nI nb) vrooms vis (nI nf) rooms tanks (upd cows j (nI (cz + 1))) (fun i => if i = j then upd (bst j) cz best else bst i) (nI n) farm amount mark place number paid blamed)) rfl rfl 1 rfl rfl rfl rfl ⟨by decide, by decide⟩ (Nat.le_of_ble_eq_true rfl) ⟨by decide, by decide⟩ dX2_addCow_55 ?_
  refine k_steq (st' := [.int (nI (cz + 1))]) rfl ?_
  exact kw_iret E hr hlk rfl rfl (by decide) (by decide) dX2_addCow_58
set_option maxRecDepth 100000 in
set_option maxHeartbeats 4000000 in
theorem m_X2_addCow_i (l : Launch) (D : va_G) (k : Nat → ClassId) (a : Nat → Nat) (rr : Nat → Nat) (dy : Nat) (nv : Nat) (rounds : Int32) (ub : Bool) (nb : Nat) (vrooms : Nat → Int32) (vis : Nat → Int32) (nf : Nat) (rooms : Nat → Int32) (tanks : Nat → Int32) (cows : Nat → Int32) (bst : Nat → Nat → Int32) (n : Nat) (farm : Nat → Int32) (amount : Nat → Int32) (mark : Nat → Int32) (place : Nat → Int32) (number : Nat → Int32) (paid : Nat → Int32) (blamed : Nat → Int32) (fa : Int32) (best : Int32) (hlt : l.stackTraces = false) (hb : fa < 0 ∨ nI nf ≤ fa) : mX l yX2_addCow cX2_addCow 3 (some .int) 7 121 1 6 D (kTy k) [.ref (a 0), .int fa, .int best] (wMR k a rr (nI dy) (nI nv) rounds (kB ub) (nI nb) vrooms vis (nI nf) rooms tanks cows bst (nI n) farm amount mark place number paid blamed) (.inr "java/lang/IndexOutOfBoundsException") := by
  refine mX.of (lv' := [(0, .ref (a 0)), (1, .int fa), (2, .int best)]) (by decide) (Nat.le_of_ble_eq_true rfl) rfl ?_
  intro p e s m args below meth c E hr hlk hex hZ hA
  refine k_aload_n E 0 rfl rfl dX2_addCow_0 ?_
  refine k_iload_n E 1 rfl rfl dX2_addCow_1 ?_
  refine k_callXV [.int fa] E hA hZ (m_X2_requireFarm_b l D k a rr dy nv rounds ub nb vrooms vis nf rooms tanks cows bst n farm amount mark place number paid blamed fa hlt (by first | assumption | omega)) cf_X2_requireFarm q_276 [] [] rfl 0 rfl rfl rfl rfl ⟨by decide, by decide⟩ (Nat.le_of_ble_eq_true rfl) ⟨by decide, by decide⟩ dX2_addCow_2 (fun v1 W1 ho => by cases ho) (fun X1 ho => ?_)
  cases ho
  exact k_xout hlk hex rfl rfl (by decide) (by decide)
set_option maxRecDepth 100000 in
set_option maxHeartbeats 4000000 in
theorem m_X2_addCow_a (l : Launch) (D : va_G) (k : Nat → ClassId) (a : Nat → Nat) (rr : Nat → Nat) (dy : Nat) (nv : Nat) (rounds : Int32) (ub : Bool) (nb : Nat) (vrooms : Nat → Int32) (vis : Nat → Int32) (nf : Nat) (rooms : Nat → Int32) (tanks : Nat → Int32) (cows : Nat → Int32) (bst : Nat → Nat → Int32) (n : Nat) (farm : Nat → Int32) (amount : Nat → Int32) (mark : Nat → Int32) (place : Nat → Int32) (number : Nat → Int32) (paid : Nat → Int32) (blamed : Nat → Int32) (j : Nat) (best : Int32) (hlt : l.stackTraces = false) (hj : j < nf) (hnf : nf ≤ 6) (hb : best < 5 ∨ 30 < best) : mX l yX2_addCow cX2_addCow 3 (some .int) 7 121 1 6 D (kTy k) [.ref (a 0), .int (nI j), .int best] (wMR k a rr (nI dy) (nI nv) rounds (kB ub) (nI nb) vrooms vis (nI nf) rooms tanks cows bst (nI n) farm amount mark place number paid blamed) (.inr "java/lang/IllegalArgumentException") := by
  refine mX.of (lv' := [(0, .ref (a 0)), (1, .int (nI j)), (2, .int best)]) (by decide) (Nat.le_of_ble_eq_true rfl) rfl ?_
  intro p e s m args below meth c E hr hlk hex hZ hA
  refine k_aload_n E 0 rfl rfl dX2_addCow_0 ?_
  refine k_iload_n E 1 rfl rfl dX2_addCow_1 ?_
  refine k_callRV [.int (nI j)] E (m_X2_requireFarm l D k a rr dy nv rounds ub nb vrooms vis nf rooms tanks cows bst n farm amount mark place number paid blamed j (by first | assumption | omega) (by first | assumption | omega)) cf_X2_requireFarm q_276 [0, 1, 2, 3, 4, 5, 6, 7, 8, 9, 10, 11, 12, 13, 14, 15, 16, 17, 18, 19, 20, 21] rfl 0 rfl rfl rfl rfl ⟨by decide, by decide⟩ (Nat.le_of_ble_eq_true rfl) ⟨by decide, by decide⟩ dX2_addCow_2 ?_
  refine k_steq (st' := []) rfl ?_
  refine k_iload_n E 2 rfl rfl dX2_addCow_5 ?_
  refine k_iconst E (v := 5) (by decide) dX2_addCow_6 ?_
  refine k_icmp_lt E (tgt := 16) (by decide) dX2_addCow_7 (fun c7 => ?_) (fun c7 => ?_)
  · skip
    exact k_throw (cls := "java/lang/IllegalArgumentException") (text := "a cow's best is 5 to 30") (names := ["java/lang/RuntimeException", "java/lang/Exception"]) (ic := 52) E hlt hlk hex hZ rfl rfl rfl (by decide +kernel) (by decide +kernel) q_153 q_8 (by decide +kernel) gx_IllegalArgumentException bx_IllegalArgumentException ox_IllegalArgumentException dX2_addCow_16 dX2_addCow_19 dX2_addCow_20 dX2_addCow_22 dX2_addCow_25 (by decide) (Nat.le_of_ble_eq_true rfl) (by decide) (by decide) (by decide) (by decide)
  · skip
    refine k_iload_n E 2 rfl rfl dX2_addCow_10 ?_
    refine k_bipush E (v := 30) (by decide) dX2_addCow_11 ?_
    refine k_icmp_le E (tgt := 26) (by decide) dX2_addCow_13 (fun c13 => absurd c13 (Int32.not_le.mpr (hb.resolve_left c7))) (fun c13 => ?_)
    exact k_throw (cls := "java/lang/IllegalArgumentException") (text := "a cow's best is 5 to 30") (names := ["java/lang/RuntimeException", "java/lang/Exception"]) (ic := 52) E hlt hlk hex hZ rfl rfl rfl (by decide +kernel) (by decide +kernel) q_153 q_8 (by decide +kernel) gx_IllegalArgumentException bx_IllegalArgumentException ox_IllegalArgumentException dX2_addCow_16 dX2_addCow_19 dX2_addCow_20 dX2_addCow_22 dX2_addCow_25 (by decide) (Nat.le_of_ble_eq_true rfl) (by decide) (by decide) (by decide) (by decide)
set_option maxRecDepth 100000 in
set_option maxHeartbeats 4000000 in
theorem m_X2_addCow_s (l : Launch) (D : va_G) (k : Nat → ClassId) (a : Nat → Nat) (rr : Nat → Nat) (dy : Nat) (nv : Nat) (rounds : Int32) (ub : Bool) (nb : Nat) (vrooms : Nat → Int32) (vis : Nat → Int32) (nf : Nat) (rooms : Nat → Int32) (tanks : Nat → Int32) (cows : Nat → Int32) (bst : Nat → Nat → Int32) (n : Nat) (farm : Nat → Int32) (amount : Nat → Int32) (mark : Nat → Int32) (place : Nat → Int32) (number : Nat → Int32) (paid : Nat → Int32) (blamed : Nat → Int32) (j : Nat) (best : Int32) (cz : Nat) (hlt : l.stackTraces = false) (hj : j < nf) (hnf : nf ≤ 6) (h1 : ¬ best < 5) (h2 : best ≤ 30) (hc : cows j = nI cz) (hc5 : cz = 5) : mX l yX2_addCow cX2_addCow 3 (some .int) 7 121 1 6 D (kTy k) [.ref (a 0), .int (nI j), .int best] (wMR k a rr (nI dy) (nI nv) rounds (kB ub) (nI nb) vrooms vis (nI nf) rooms tanks cows bst (nI n) farm amount mark place number paid blamed) (.inr "java/lang/IllegalStateException") := by
  refine mX.of (lv' := [(0, .ref (a 0)), (1, .int (nI j)), (2, .int best)]) (by decide) (Nat.le_of_ble_eq_true rfl) rfl ?_
  intro p e s m args below meth c E hr hlk hex hZ hA
  refine k_aload_n E 0 rfl rfl dX2_addCow_0 ?_
  refine k_iload_n E 1 rfl rfl dX2_addCow_1 ?_
  refine k_callRV [.int (nI j)] E (m_X2_requireFarm l D k a rr dy nv rounds ub nb vrooms vis nf rooms tanks cows bst n farm amount mark place number paid blamed j (by first | assumption | omega) (by first | assumption | omega)) cf_X2_requireFarm q_276 [0, 1, 2, 3, 4, 5, 6, 7, 8, 9, 10, 11, 12, 13, 14, 15, 16, 17, 18, 19, 20, 21] rfl 0 rfl rfl rfl rfl ⟨by decide, by decide⟩ (Nat.le_of_ble_eq_true rfl) ⟨by decide, by decide⟩ dX2_addCow_2 ?_
  refine k_steq (st' := []) rfl ?_
  refine k_iload_n E 2 rfl rfl dX2_addCow_5 ?_
  refine k_iconst E (v := 5) (by decide) dX2_addCow_6 ?_
  refine k_icmp_lt E (tgt := 16) (by decide) dX2_addCow_7 (fun c7 => absurd c7 h1) (fun c7 => ?_)
  refine k_iload_n E 2 rfl rfl dX2_addCow_10 ?_
  refine k_bipush E (v := 30) (by decide) dX2_addCow_11 ?_
  refine k_icmp_le E (tgt := 26) (by decide) dX2_addCow_13 (fun c13 => ?_) (fun c13 => absurd c13 (not_not_intro h2))
  refine k_aload_n E 0 rfl rfl dX2_addCow_26 ?_
  refine k_get E inX2 0 rfl rfl 1 (by decide) q_93 rfl rfl dX2_addCow_27 ?_
  refine k_getN E inX0 1 rfl rfl 3 (by decide) rfl (by decide +kernel) rfl rfl dX2_addCow_30 ?_
  refine k_iload_n E 1 rfl rfl dX2_addCow_33 ?_
  refine k_iald E (j := j) 4 0 rfl rfl rfl (by omega) (by decide) dX2_addCow_34 ?_
  refine k_steq (st' := [.int (nI cz)]) (by rw [show cows j = nI cz from hc]) ?_
  refine k_iconst E (v := 5) (by decide) dX2_addCow_35 ?_
  refine k_icmp_lt E (tgt := 49) (by decide) dX2_addCow_36 (fun c36 => absurd ((nI_ltI (a := cz) (b := 5) (by omega) (by omega)).mp c36) (by omega)) (fun c36 => ?_)
  have c36 := (not_congr (nI_ltI (a := cz) (b := 5) (by omega) (by omega))).mp c36
  exact k_throw (cls := "java/lang/IllegalStateException") (text := "the farm has 5 cows") (names := ["java/lang/RuntimeException", "java/lang/Exception"]) (ic := 62) E hlt hlk hex hZ rfl rfl rfl (by decide +kernel) (by decide +kernel) q_225 q_9 (by decide +kernel) gx_IllegalStateException bx_IllegalStateException ox_IllegalStateException dX2_addCow_39 dX2_addCow_42 dX2_addCow_43 dX2_addCow_45 dX2_addCow_48 (by decide) (Nat.le_of_ble_eq_true rfl) (by decide) (by decide) (by decide) (by decide)
set_option maxRecDepth 100000 in
set_option maxHeartbeats 4000000 in
theorem m_X2_milkOf (l : Launch) (D : va_G) (k : Nat → ClassId) (a : Nat → Nat) (rr : Nat → Nat) (dy : Nat) (nv : Nat) (rounds : Int32) (ub : Bool) (nb : Nat) (vrooms : Nat → Int32) (vis : Nat → Int32) (nf : Nat) (rooms : Nat → Int32) (tanks : Nat → Int32) (cows : Nat → Int32) (bst : Nat → Nat → Int32) (n : Nat) (farm : Nat → Int32) (amount : Nat → Int32) (mark : Nat → Int32) (place : Nat → Int32) (number : Nat → Int32) (paid : Nat → Int32) (blamed : Nat → Int32) (j : Nat) (dz : Int32) (cz : Nat) (hj : j < nf) (hnf : nf ≤ 6) (h1 : ¬ dz < 0) (h2 : dz ≤ 999) (hc : cows j = nI cz) (hc5 : cz ≤ 5) : mR l yX2_milkOf cX2_milkOf 3 (some .int) 7 121 D (kTy k) [.ref (a 0), .int (nI j), .int dz] (wMR k a rr (nI dy) (nI nv) rounds (kB ub) (nI nb) vrooms vis (nI nf) rooms tanks cows bst (nI n) farm amount mark place number paid blamed) (some (.int (milkF (bst j) dz cz))) := by
  refine mR.of (lv' := [(0, .ref (a 0)), (1, .int (nI j)), (2, .int dz)]) (by decide) (Nat.le_of_ble_eq_true rfl) rfl ?_
  intro p e s m args below meth c E hr hlk
  refine k_aload_n E 0 rfl rfl dX2_milkOf_0 ?_
  refine k_iload_n E 1 rfl rfl dX2_milkOf_1 ?_
  refine k_callRV [.int (nI j)] E (m_X2_requireFarm l D k a rr dy nv rounds ub nb vrooms vis nf rooms tanks cows bst n farm amount mark place number paid blamed j (by first | assumption | omega) (by first | assumption | omega)) cf_X2_requireFarm q_276 [0, 1, 2, 3, 4, 5, 6, 7, 8, 9, 10, 11, 12, 13, 14, 15, 16, 17, 18, 19, 20, 21] rfl 0 rfl rfl rfl rfl ⟨by decide, by decide⟩ (Nat.le_of_ble_eq_true rfl) ⟨by decide, by decide⟩ dX2_milkOf_2 ?_
  refine k_steq (st' := []) rfl ?_
  refine k_iload_n E 2 rfl rfl dX2_milkOf_5 ?_
  refine k_if_lt E (tgt := 16) (by decide) dX2_milkOf_6 (fun c6 => absurd c6 h1) (fun c6 => ?_)
  refine k_iload_n E 2 rfl rfl dX2_milkOf_9 ?_
  refine k_sipush E (v := 999) (by decide) dX2_milkOf_10 ?_
  refine k_icmp_le E (tgt := 26) (by decide) dX2_milkOf_13 (fun c13 => ?_) (fun c13 => absurd c13 (not_not_intro h2))
  refine k_aload_n E 0 rfl rfl dX2_milkOf_26 ?_
  refine k_get E inX2 0 rfl rfl 1 (by decide) q_93 rfl rfl dX2_milkOf_27 ?_
  refine k_iload_n E 1 rfl rfl dX2_milkOf_30 ?_
  refine k_iload_n E 2 rfl rfl dX2_milkOf_31 ?_
  refine k_callRVN [.int (nI j), .int dz] E (m_X0_milkOn l D k (a 1) (a 2) (a 3) (a 4) (a 5) rr nf rooms tanks cows bst j cz dz (by first | assumption | omega) (by first | assumption | omega) (by first | assumption | omega)) cf_X0_milkOn rfl (by decide +kernel) [1, 2, 3, 4, 5, 6, 7, 8, 9, 10, 11] rfl 1 rfl rfl rfl rfl ⟨by decide, by decide⟩ (Nat.le_of_ble_eq_true rfl) ⟨by decide, by decide⟩ dX2_milkOf_32 ?_
  refine k_steq (st' := [.int (milkF (bst j) dz cz)]) rfl ?_
  exact kr_iret E hr hlk rfl dX2_milkOf_35
set_option maxRecDepth 100000 in
set_option maxHeartbeats 4000000 in
theorem m_X2_milkOf_i (l : Launch) (D : va_G) (k : Nat → ClassId) (a : Nat → Nat) (rr : Nat → Nat) (dy : Nat) (nv : Nat) (rounds : Int32) (ub : Bool) (nb : Nat) (vrooms : Nat → Int32) (vis : Nat → Int32) (nf : Nat) (rooms : Nat → Int32) (tanks : Nat → Int32) (cows : Nat → Int32) (bst : Nat → Nat → Int32) (n : Nat) (farm : Nat → Int32) (amount : Nat → Int32) (mark : Nat → Int32) (place : Nat → Int32) (number : Nat → Int32) (paid : Nat → Int32) (blamed : Nat → Int32) (fa : Int32) (dz : Int32) (hlt : l.stackTraces = false) (hb : fa < 0 ∨ nI nf ≤ fa) : mX l yX2_milkOf cX2_milkOf 3 (some .int) 7 121 1 6 D (kTy k) [.ref (a 0), .int fa, .int dz] (wMR k a rr (nI dy) (nI nv) rounds (kB ub) (nI nb) vrooms vis (nI nf) rooms tanks cows bst (nI n) farm amount mark place number paid blamed) (.inr "java/lang/IndexOutOfBoundsException") := by
  refine mX.of (lv' := [(0, .ref (a 0)), (1, .int fa), (2, .int dz)]) (by decide) (Nat.le_of_ble_eq_true rfl) rfl ?_
  intro p e s m args below meth c E hr hlk hex hZ hA
  refine k_aload_n E 0 rfl rfl dX2_milkOf_0 ?_
  refine k_iload_n E 1 rfl rfl dX2_milkOf_1 ?_
  refine k_callXV [.int fa] E hA hZ (m_X2_requireFarm_b l D k a rr dy nv rounds ub nb vrooms vis nf rooms tanks cows bst n farm amount mark place number paid blamed fa hlt (by first | assumption | omega)) cf_X2_requireFarm q_276 [] [] rfl 0 rfl rfl rfl rfl ⟨by decide, by decide⟩ (Nat.le_of_ble_eq_true rfl) ⟨by decide, by decide⟩ dX2_milkOf_2 (fun v1 W1 ho => by cases ho) (fun X1 ho => ?_)
  cases ho
  exact k_xout hlk hex rfl rfl (by decide) (by decide)
set_option maxRecDepth 100000 in
set_option maxHeartbeats 4000000 in
theorem m_X2_milkOf_a (l : Launch) (D : va_G) (k : Nat → ClassId) (a : Nat → Nat) (rr : Nat → Nat) (dy : Nat) (nv : Nat) (rounds : Int32) (ub : Bool) (nb : Nat) (vrooms : Nat → Int32) (vis : Nat → Int32) (nf : Nat) (rooms : Nat → Int32) (tanks : Nat → Int32) (cows : Nat → Int32) (bst : Nat → Nat → Int32) (n : Nat) (farm : Nat → Int32) (amount : Nat → Int32) (mark : Nat → Int32) (place : Nat → Int32) (number : Nat → Int32) (paid : Nat → Int32) (blamed : Nat → Int32) (j : Nat) (dz : Int32) (hlt : l.stackTraces = false) (hj : j < nf) (hnf : nf ≤ 6) (hb : dz < 0 ∨ 999 < dz) : mX l yX2_milkOf cX2_milkOf 3 (some .int) 7 121 1 6 D (kTy k) [.ref (a 0), .int (nI j), .int dz] (wMR k a rr (nI dy) (nI nv) rounds (kB ub) (nI nb) vrooms vis (nI nf) rooms tanks cows bst (nI n) farm amount mark place number paid blamed) (.inr "java/lang/IllegalArgumentException") := by
  refine mX.of (lv' := [(0, .ref (a 0)), (1, .int (nI j)), (2, .int dz)]) (by decide) (Nat.le_of_ble_eq_true rfl) rfl ?_
  intro p e s m args below meth c E hr hlk hex hZ hA
  refine k_aload_n E 0 rfl rfl dX2_milkOf_0 ?_
  refine k_iload_n E 1 rfl rfl dX2_milkOf_1 ?_
  refine k_callRV [.int (nI j)] E (m_X2_requireFarm l D k a rr dy nv rounds ub nb vrooms vis nf rooms tanks cows bst n farm amount mark place number paid blamed j (by first | assumption | omega) (by first | assumption | omega)) cf_X2_requireFarm q_276 [0, 1, 2, 3, 4, 5, 6, 7, 8, 9, 10, 11, 12, 13, 14, 15, 16, 17, 18, 19, 20, 21] rfl 0 rfl rfl rfl rfl ⟨by decide, by decide⟩ (Nat.le_of_ble_eq_true rfl) ⟨by decide, by decide⟩ dX2_milkOf_2 ?_
  refine k_steq (st' := []) rfl ?_
  refine k_iload_n E 2 rfl rfl dX2_milkOf_5 ?_
  refine k_if_lt E (tgt := 16) (by decide) dX2_milkOf_6 (fun c6 => ?_) (fun c6 => ?_)
  · skip
    exact k_throw (cls := "java/lang/IllegalArgumentException") (text := "a day is 0 to 999") (names := ["java/lang/RuntimeException", "java/lang/Exception"]) (ic := 52) E hlt hlk hex hZ rfl rfl rfl (by decide +kernel) (by decide +kernel) q_153 q_8 (by decide +kernel) gx_IllegalArgumentException bx_IllegalArgumentException ox_IllegalArgumentException dX2_milkOf_16 dX2_milkOf_19 dX2_milkOf_20 dX2_milkOf_22 dX2_milkOf_25 (by decide) (Nat.le_of_ble_eq_true rfl) (by decide) (by decide) (by decide) (by decide)
  · skip
    refine k_iload_n E 2 rfl rfl dX2_milkOf_9 ?_
    refine k_sipush E (v := 999) (by decide) dX2_milkOf_10 ?_
    refine k_icmp_le E (tgt := 26) (by decide) dX2_milkOf_13 (fun c13 => absurd c13 (Int32.not_le.mpr (hb.resolve_left c6))) (fun c13 => ?_)
    exact k_throw (cls := "java/lang/IllegalArgumentException") (text := "a day is 0 to 999") (names := ["java/lang/RuntimeException", "java/lang/Exception"]) (ic := 52) E hlt hlk hex hZ rfl rfl rfl (by decide +kernel) (by decide +kernel) q_153 q_8 (by decide +kernel) gx_IllegalArgumentException bx_IllegalArgumentException ox_IllegalArgumentException dX2_milkOf_16 dX2_milkOf_19 dX2_milkOf_20 dX2_milkOf_22 dX2_milkOf_25 (by decide) (Nat.le_of_ble_eq_true rfl) (by decide) (by decide) (by decide) (by decide)
set_option maxRecDepth 100000 in
set_option maxHeartbeats 4000000 in
theorem m_X2_inTank (l : Launch) (D : va_G) (k : Nat → ClassId) (a : Nat → Nat) (rr : Nat → Nat) (dy : Nat) (nv : Nat) (rounds : Int32) (ub : Bool) (nb : Nat) (vrooms : Nat → Int32) (vis : Nat → Int32) (nf : Nat) (rooms : Nat → Int32) (tanks : Nat → Int32) (cows : Nat → Int32) (bst : Nat → Nat → Int32) (n : Nat) (farm : Nat → Int32) (amount : Nat → Int32) (mark : Nat → Int32) (place : Nat → Int32) (number : Nat → Int32) (paid : Nat → Int32) (blamed : Nat → Int32) (j : Nat) (hj : j < nf) (hnf : nf ≤ 6) : mR l yX2_inTank cX2_inTank 2 (some .int) 7 121 D (kTy k) [.ref (a 0), .int (nI j)] (wMR k a rr (nI dy) (nI nv) rounds (kB ub) (nI nb) vrooms vis (nI nf) rooms tanks cows bst (nI n) farm amount mark place number paid blamed) (some (.int (tanks j))) := by
  refine mR.of (lv' := [(0, .ref (a 0)), (1, .int (nI j))]) (by decide) (Nat.le_of_ble_eq_true rfl) rfl ?_
  intro p e s m args below meth c E hr hlk
  refine k_aload_n E 0 rfl rfl dX2_inTank_0 ?_
  refine k_iload_n E 1 rfl rfl dX2_inTank_1 ?_
  refine k_callRV [.int (nI j)] E (m_X2_requireFarm l D k a rr dy nv rounds ub nb vrooms vis nf rooms tanks cows bst n farm amount mark place number paid blamed j (by first | assumption | omega) (by first | assumption | omega)) cf_X2_requireFarm q_276 [0, 1, 2, 3, 4, 5, 6, 7, 8, 9, 10, 11, 12, 13, 14, 15, 16, 17, 18, 19, 20, 21] rfl 0 rfl rfl rfl rfl ⟨by decide, by decide⟩ (Nat.le_of_ble_eq_true rfl) ⟨by decide, by decide⟩ dX2_inTank_2 ?_
  refine k_steq (st' := []) rfl ?_
  refine k_aload_n E 0 rfl rfl dX2_inTank_5 ?_
  refine k_get E inX2 0 rfl rfl 1 (by decide) q_93 rfl rfl dX2_inTank_6 ?_
  refine k_getN E inX0 1 rfl rfl 2 (by decide) rfl (by decide +kernel) rfl rfl dX2_inTank_9 ?_
  refine k_iload_n E 1 rfl rfl dX2_inTank_12 ?_
  refine k_iald E (j := j) 3 0 rfl rfl rfl (by omega) (by decide) dX2_inTank_13 ?_
  exact kr_iret E hr hlk rfl dX2_inTank_14
set_option maxRecDepth 100000 in
set_option maxHeartbeats 4000000 in
theorem m_X2_inTank_i (l : Launch) (D : va_G) (k : Nat → ClassId) (a : Nat → Nat) (rr : Nat → Nat) (dy : Nat) (nv : Nat) (rounds : Int32) (ub : Bool) (nb : Nat) (vrooms : Nat → Int32) (vis : Nat → Int32) (nf : Nat) (rooms : Nat → Int32) (tanks : Nat → Int32) (cows : Nat → Int32) (bst : Nat → Nat → Int32) (n : Nat) (farm : Nat → Int32) (amount : Nat → Int32) (mark : Nat → Int32) (place : Nat → Int32) (number : Nat → Int32) (paid : Nat → Int32) (blamed : Nat → Int32) (fa : Int32) (hlt : l.stackTraces = false) (hb : fa < 0 ∨ nI nf ≤ fa) : mX l yX2_inTank cX2_inTank 2 (some .int) 7 121 1 6 D (kTy k) [.ref (a 0), .int fa] (wMR k a rr (nI dy) (nI nv) rounds (kB ub) (nI nb) vrooms vis (nI nf) rooms tanks cows bst (nI n) farm amount mark place number paid blamed) (.inr "java/lang/IndexOutOfBoundsException") := by
  refine mX.of (lv' := [(0, .ref (a 0)), (1, .int fa)]) (by decide) (Nat.le_of_ble_eq_true rfl) rfl ?_
  intro p e s m args below meth c E hr hlk hex hZ hA
  refine k_aload_n E 0 rfl rfl dX2_inTank_0 ?_
  refine k_iload_n E 1 rfl rfl dX2_inTank_1 ?_
  refine k_callXV [.int fa] E hA hZ (m_X2_requireFarm_b l D k a rr dy nv rounds ub nb vrooms vis nf rooms tanks cows bst n farm amount mark place number paid blamed fa hlt (by first | assumption | omega)) cf_X2_requireFarm q_276 [] [] rfl 0 rfl rfl rfl rfl ⟨by decide, by decide⟩ (Nat.le_of_ble_eq_true rfl) ⟨by decide, by decide⟩ dX2_inTank_2 (fun v1 W1 ho => by cases ho) (fun X1 ho => ?_)
  cases ho
  exact k_xout hlk hex rfl rfl (by decide) (by decide)
set_option maxRecDepth 100000 in
set_option maxHeartbeats 4000000 in
theorem m_X2_pass (l : Launch) (D : va_G) (k : Nat → ClassId) (a : Nat → Nat) (rr : Nat → Nat) (dy : Nat) (nv : Nat) (rounds : Int32) (ub : Bool) (nb : Nat) (vrooms : Nat → Int32) (vis : Nat → Int32) (nf : Nat) (rooms : Nat → Int32) (tanks : Nat → Int32) (cows : Nat → Int32) (bst : Nat → Nat → Int32) (n : Nat) (farm : Nat → Int32) (amount : Nat → Int32) (mark : Nat → Int32) (place : Nat → Int32) (number : Nat → Int32) (paid : Nat → Int32) (blamed : Nat → Int32) (t0 : Nat) (cw : Nat → Nat) (hnf : nf ≤ 6) (h1 : 1 ≤ t0) (h2 : t0 ≤ 30) (h3 : dy + t0 ≤ 999) (hcw : ∀ i, i < nf → cows i = nI (cw i) ∧ cw i ≤ 5) : mW l yX2_pass cX2_pass 4 (some .int) 6 100 0 0 D (kTy k) [.ref (a 0), .int (nI t0)] (wMR k a rr (nI dy) (nI nv) rounds (kB ub) (nI nb) vrooms vis (nI nf) rooms tanks cows bst (nI n) farm amount mark place number paid blamed) (some (.int (poD rooms tanks bst cw dy nf t0))) (wMR k a rr (nI (dy + t0)) (nI nv) rounds (kB ub) (nI nb) vrooms vis (nI nf) rooms (tkD rooms tanks bst cw dy nf t0) cows bst (nI n) farm amount mark place number paid blamed) := by
  refine mW.of (lv' := [(0, .ref (a 0)), (1, .int (nI t0))]) (by decide) (Nat.le_of_ble_eq_true rfl) rfl ?_
  intro p e s m args below meth c E hr hlk hm hA
  have L37 : ∀ (dn37 : Nat) (t : Nat) (tk : Nat → Int32) (x : Int32), t + dn37 = t0 → (tk = tkD rooms tanks bst cw dy nf t) → (x = poD rooms tanks bst cw dy nf t) → kJ p l e (kRmc 6 100 0 0) s m args below meth c (gW D (va_A (wMR k a rr (nI dy) (nI nv) rounds (kB ub) (nI nb) vrooms vis (nI nf) rooms tanks cows bst (nI n) farm amount mark place number paid blamed) s.heap.size) s.heap) 4 0 0 (MQ below (kQw (some (.int (poD rooms tanks bst cw dy nf t0))) D (wMR k a rr (nI dy) (nI nv) rounds (kB ub) (nI nb) vrooms vis (nI nf) rooms tanks cows bst (nI n) farm amount mark place number paid blamed) (wMR k a rr (nI (dy + t0)) (nI nv) rounds (kB ub) (nI nb) vrooms vis (nI nf) rooms (tkD rooms tanks bst cw dy nf t0) cows bst (nI n) farm amount mark place number paid blamed) s.heap.size) args s 0 0 (va_A (wMR k a rr (nI dy) (nI nv) rounds (kB ub) (nI nb) vrooms vis (nI nf) rooms tanks cows bst (nI n) farm amount mark place number paid blamed) s.heap.size)) (wMR k a rr (nI (dy + t)) (nI nv) rounds (kB ub) (nI nb) vrooms vis (nI nf) rooms tk cows bst (nI n) farm amount mark place number paid blamed) 37 [(0, .ref (a 0)), (1, .int (nI t0)), (2, .int x), (3, .int (nI t))] [] := by
    intro dn37
    induction dn37 with
    | zero =>
      intro t tk x hd37 ht hx
      refine k_iload_n E 3 rfl rfl dX2_pass_37 ?_
      refine k_iload_n E 1 rfl rfl dX2_pass_38 ?_
      refine k_icmp_ge E (tgt := 72) (by decide) dX2_pass_39 (fun c39 => ?_) (fun c39 => absurd ((not_congr (nI_leI (a := t0) (b := t) (by omega) (by omega))).mp c39) (by omega))
      have c39 := (nI_leI (a := t0) (b := t) (by omega) (by omega)).mp c39
      refine k_iload_n E 2 rfl rfl dX2_pass_72 ?_
      exact kw_iret E hr hlk (by rw [hx, show t = t0 by omega]) (by rw [ht, show t = t0 by omega]) (by decide) (by decide) dX2_pass_73
    | succ dn37 ih37 =>
      intro t tk x hd37 ht hx
      refine k_iload_n E 3 rfl rfl dX2_pass_37 ?_
      refine k_iload_n E 1 rfl rfl dX2_pass_38 ?_
      refine k_icmp_ge E (tgt := 72) (by decide) dX2_pass_39 (fun c39 => absurd ((nI_leI (a := t0) (b := t) (by omega) (by omega)).mp c39) (by omega)) (fun c39 => ?_)
      have c39 := (not_congr (nI_leI (a := t0) (b := t) (by omega) (by omega))).mp c39
      refine k_aload_n E 0 rfl rfl dX2_pass_42 ?_
      refine k_dup E rfl dX2_pass_43 ?_
      refine k_get E inX2 0 rfl rfl 0 (by decide) q_92 rfl rfl dX2_pass_44 ?_
      refine k_iconst E (v := 1) (by decide) dX2_pass_47 ?_
      refine k_iadd E dX2_pass_48 ?_
      refine k_steq (st' := [.int (nI (dy + t + 1)), .ref (a 0)]) (by rw [show (nI (dy + t)) + 1 = nI (dy + t + 1) from nI_1 _]) ?_
      refine k_put (ws' := (wMR k a rr (nI (dy + t + 1)) (nI nv) rounds (kB ub) (nI nb) vrooms vis (nI nf) rooms tk cows bst (nI n) farm amount mark place number paid blamed)) E inX2 tyX2 tyX2_ok nmX2 0 rfl rfl 0 (by decide) q_92 rfl rfl rfl rfl (Nat.le_of_ble_eq_true rfl) rfl dX2_pass_49 ?_
      refine k_iload_n E 2 rfl rfl dX2_pass_52 ?_
      refine k_aload_n E 0 rfl rfl dX2_pass_53 ?_
      refine k_get E inX2 0 rfl rfl 1 (by decide) q_93 rfl rfl dX2_pass_54 ?_
      refine k_aload_n E 0 rfl rfl dX2_pass_57 ?_
      refine k_get E inX2 0 rfl rfl 0 (by decide) q_92 rfl rfl dX2_pass_58 ?_
      refine k_callWVN [.int (nI (dy + t + 1))] E hA (m_X0_milkAll l D k (a 1) (a 2) (a 3) (a 4) (a 5) rr nf rooms tk cows bst cw (nI (dy + t + 1)) (by first | assumption | omega) (by first | assumption | omega)) cf_X0_milkAll rfl (by decide +kernel) [oMR a (nI (dy + t + 1)) (nI nv) rounds (kB ub) (nI nb)] (yMR k a vrooms vis (nI n) farm amount mark place number paid blamed) (ws' := (wMR k a rr (nI (dy + t + 1)) (nI nv) rounds (kB ub) (nI nb) vrooms vis (nI nf) rooms (tkF rooms tk bst cw (nI (dy + t + 1)) nf) cows bst (nI n) farm amount mark place number paid blamed)) rfl rfl 1 rfl rfl rfl rfl ⟨by decide, by decide⟩ (Nat.le_of_ble_eq_true rfl) ⟨by decide, by decide⟩ dX2_pass_61 ?_
      refine k_steq (st' := [.int (poF rooms tk bst cw (nI (dy + t + 1)) nf), .int x]) rfl ?_
      refine k_iadd E dX2_pass_64 ?_
      refine k_istore_n (lv' := [(2, .int (x + (poF rooms tk bst cw (nI (dy + t + 1)) nf))), (0, .ref (a 0)), (1, .int (nI t0)), (3, .int (nI t))]) E rfl (by decide) rfl dX2_pass_65 ?_
      refine k_iinc (q := 3) (v := nI (t + 1)) (lv' := [(3, .int (nI (t + 1))), (2, .int (x + (poF rooms tk bst cw (nI (dy + t + 1)) nf))), (0, .ref (a 0)), (1, .int (nI t0))]) E rfl (nI_inc _) (by decide) rfl dX2_pass_66 ?_
      refine k_goto E (tgt := 37) (by decide) dX2_pass_69 ?_
      refine k_lv [2, 3, 1, 0] rfl ?_
      exact ih37 (t + 1) (tkF rooms tk bst cw (nI (dy + t + 1)) nf) (x + (poF rooms tk bst cw (nI (dy + t + 1)) nf)) (by omega) (by rw [ht]; rfl) (by rw [hx, ht]; rfl)
  refine k_iload_n E 1 rfl rfl dX2_pass_0 ?_
  refine k_iconst E (v := 1) (by decide) dX2_pass_1 ?_
  refine k_icmp_lt E (tgt := 23) (by decide) dX2_pass_2 (fun c2 => absurd ((nI_ltI (a := t0) (b := 1) (by omega) (by omega)).mp c2) (by omega)) (fun c2 => ?_)
  have c2 := (not_congr (nI_ltI (a := t0) (b := 1) (by omega) (by omega))).mp c2
  refine k_iload_n E 1 rfl rfl dX2_pass_5 ?_
  refine k_bipush E (v := 30) (by decide) dX2_pass_6 ?_
  refine k_icmp_gt E (tgt := 23) (by decide) dX2_pass_8 (fun c8 => absurd ((nI_ltI (a := 30) (b := t0) (by omega) (by omega)).mp c8) (by omega)) (fun c8 => ?_)
  have c8 := (not_congr (nI_ltI (a := 30) (b := t0) (by omega) (by omega))).mp c8
  refine k_aload_n E 0 rfl rfl dX2_pass_11 ?_
  refine k_get E inX2 0 rfl rfl 0 (by decide) q_92 rfl rfl dX2_pass_12 ?_
  refine k_iload_n E 1 rfl rfl dX2_pass_15 ?_
  refine k_iadd E dX2_pass_16 ?_
  refine k_steq (st' := [.int (nI (dy + t0))]) (by rw [show (nI dy) + (nI t0) = nI (dy + t0) from nI_add _ _]) ?_
  refine k_sipush E (v := 999) (by decide) dX2_pass_17 ?_
  refine k_icmp_le E (tgt := 33) (by decide) dX2_pass_20 (fun c20 => ?_) (fun c20 => absurd ((not_congr (nI_leI (a := (dy + t0)) (b := 999) (by omega) (by omega))).mp c20) (by omega))
  have c20 := (nI_leI (a := (dy + t0)) (b := 999) (by omega) (by omega)).mp c20
  refine k_iconst E (v := 0) (by decide) dX2_pass_33 ?_
  refine k_istore_n (lv' := [(2, .int 0), (0, .ref (a 0)), (1, .int (nI t0))]) E rfl (by decide) rfl dX2_pass_34 ?_
  refine k_iconst E (v := 0) (by decide) dX2_pass_35 ?_
  refine k_istore_n (lv' := [(3, .int 0), (2, .int 0), (0, .ref (a 0)), (1, .int (nI t0))]) E rfl (by decide) rfl dX2_pass_36 ?_
  refine k_lv [2, 3, 1, 0] rfl ?_
  exact L37 (t0 - 0) 0 tanks 0 (by omega) rfl rfl
set_option maxRecDepth 100000 in
set_option maxHeartbeats 4000000 in
theorem m_X2_pass_a (l : Launch) (D : va_G) (k : Nat → ClassId) (a : Nat → Nat) (rr : Nat → Nat) (dy : Nat) (nv : Nat) (rounds : Int32) (ub : Bool) (nb : Nat) (vrooms : Nat → Int32) (vis : Nat → Int32) (nf : Nat) (rooms : Nat → Int32) (tanks : Nat → Int32) (cows : Nat → Int32) (bst : Nat → Nat → Int32) (n : Nat) (farm : Nat → Int32) (amount : Nat → Int32) (mark : Nat → Int32) (place : Nat → Int32) (number : Nat → Int32) (paid : Nat → Int32) (blamed : Nat → Int32) (dz : Int32) (hlt : l.stackTraces = false) (hb : dz < 1 ∨ 30 < dz ∨ ¬ (nI dy + dz ≤ 999)) : mX l yX2_pass cX2_pass 4 (some .int) 6 100 1 6 D (kTy k) [.ref (a 0), .int dz] (wMR k a rr (nI dy) (nI nv) rounds (kB ub) (nI nb) vrooms vis (nI nf) rooms tanks cows bst (nI n) farm amount mark place number paid blamed) (.inr "java/lang/IllegalArgumentException") := by
  refine mX.of (lv' := [(0, .ref (a 0)), (1, .int dz)]) (by decide) (Nat.le_of_ble_eq_true rfl) rfl ?_
  intro p e s m args below meth c E hr hlk hex hZ hA
  refine k_iload_n E 1 rfl rfl dX2_pass_0 ?_
  refine k_iconst E (v := 1) (by decide) dX2_pass_1 ?_
  refine k_icmp_lt E (tgt := 23) (by decide) dX2_pass_2 (fun c2 => ?_) (fun c2 => ?_)
  · skip
    exact k_throw (cls := "java/lang/IllegalArgumentException") (text := "1 to 30 days pass, up to the day 999") (names := ["java/lang/RuntimeException", "java/lang/Exception"]) (ic := 52) E hlt hlk hex hZ rfl rfl rfl (by decide +kernel) (by decide +kernel) q_153 q_8 (by decide +kernel) gx_IllegalArgumentException bx_IllegalArgumentException ox_IllegalArgumentException dX2_pass_23 dX2_pass_26 dX2_pass_27 dX2_pass_29 dX2_pass_32 (by decide) (Nat.le_of_ble_eq_true rfl) (by decide) (by decide) (by decide) (by decide)
  · skip
    refine k_iload_n E 1 rfl rfl dX2_pass_5 ?_
    refine k_bipush E (v := 30) (by decide) dX2_pass_6 ?_
    refine k_icmp_gt E (tgt := 23) (by decide) dX2_pass_8 (fun c8 => ?_) (fun c8 => ?_)
    · skip
      exact k_throw (cls := "java/lang/IllegalArgumentException") (text := "1 to 30 days pass, up to the day 999") (names := ["java/lang/RuntimeException", "java/lang/Exception"]) (ic := 52) E hlt hlk hex hZ rfl rfl rfl (by decide +kernel) (by decide +kernel) q_153 q_8 (by decide +kernel) gx_IllegalArgumentException bx_IllegalArgumentException ox_IllegalArgumentException dX2_pass_23 dX2_pass_26 dX2_pass_27 dX2_pass_29 dX2_pass_32 (by decide) (Nat.le_of_ble_eq_true rfl) (by decide) (by decide) (by decide) (by decide)
    · skip
      refine k_aload_n E 0 rfl rfl dX2_pass_11 ?_
      refine k_get E inX2 0 rfl rfl 0 (by decide) q_92 rfl rfl dX2_pass_12 ?_
      refine k_iload_n E 1 rfl rfl dX2_pass_15 ?_
      refine k_iadd E dX2_pass_16 ?_
      refine k_sipush E (v := 999) (by decide) dX2_pass_17 ?_
      refine k_icmp_le E (tgt := 33) (by decide) dX2_pass_20 (fun c20 => absurd c20 ((hb.resolve_left c2).resolve_left c8)) (fun c20 => ?_)
      exact k_throw (cls := "java/lang/IllegalArgumentException") (text := "1 to 30 days pass, up to the day 999") (names := ["java/lang/RuntimeException", "java/lang/Exception"]) (ic := 52) E hlt hlk hex hZ rfl rfl rfl (by decide +kernel) (by decide +kernel) q_153 q_8 (by decide +kernel) gx_IllegalArgumentException bx_IllegalArgumentException ox_IllegalArgumentException dX2_pass_23 dX2_pass_26 dX2_pass_27 dX2_pass_29 dX2_pass_32 (by decide) (Nat.le_of_ble_eq_true rfl) (by decide) (by decide) (by decide) (by decide)
set_option maxRecDepth 100000 in
set_option maxHeartbeats 4000000 in
theorem m_X2_day (l : Launch) (D : va_G) (k : Nat → ClassId) (a : Nat → Nat) (rr : Nat → Nat) (dy : Nat) (nv : Nat) (rounds : Int32) (ub : Bool) (nb : Nat) (vrooms : Nat → Int32) (vis : Nat → Int32) (nf : Nat) (rooms : Nat → Int32) (tanks : Nat → Int32) (cows : Nat → Int32) (bst : Nat → Nat → Int32) (n : Nat) (farm : Nat → Int32) (amount : Nat → Int32) (mark : Nat → Int32) (place : Nat → Int32) (number : Nat → Int32) (paid : Nat → Int32) (blamed : Nat → Int32)  : mR l yX2_day cX2_day 1 (some .int) 0 0 D (kTy k) [.ref (a 0)] (wMR k a rr (nI dy) (nI nv) rounds (kB ub) (nI nb) vrooms vis (nI nf) rooms tanks cows bst (nI n) farm amount mark place number paid blamed) (some (.int (nI dy))) := by
  refine mR.of (lv' := [(0, .ref (a 0))]) (by decide) (Nat.le_of_ble_eq_true rfl) rfl ?_
  intro p e s m args below meth c E hr hlk
  refine k_aload_n E 0 rfl rfl dX2_day_0 ?_
  refine k_get E inX2 0 rfl rfl 0 (by decide) q_92 rfl rfl dX2_day_1 ?_
  exact kr_iret E hr hlk rfl dX2_day_4
set_option maxRecDepth 100000 in
set_option maxHeartbeats 4000000 in
theorem m_X2_addVat (l : Launch) (D : va_G) (k : Nat → ClassId) (a : Nat → Nat) (rr : Nat → Nat) (dy : Nat) (nv : Nat) (rounds : Int32) (ub : Bool) (nb : Nat) (vrooms : Nat → Int32) (vis : Nat → Int32) (nf : Nat) (rooms : Nat → Int32) (tanks : Nat → Int32) (cows : Nat → Int32) (bst : Nat → Nat → Int32) (n : Nat) (farm : Nat → Int32) (amount : Nat → Int32) (mark : Nat → Int32) (place : Nat → Int32) (number : Nat → Int32) (paid : Nat → Int32) (blamed : Nat → Int32) (room : Int32) (h1 : ¬ room < 100) (h2 : room ≤ 900) (hn : nv < 4) : mW l yX2_addVat cX2_addVat 2 (some .int) 6 100 0 0 D (kTy k) [.ref (a 0), .int room] (wMR k a rr (nI dy) (nI nv) rounds (kB ub) (nI nb) vrooms vis (nI nf) rooms tanks cows bst (nI n) farm amount mark place number paid blamed) (some (.int (nI nv))) (wMR k a rr (nI dy) (nI (nv + 1)) rounds (kB ub) (nI nb) (upd vrooms nv room) vis (nI nf) rooms tanks cows bst (nI n) farm amount mark place number paid blamed) := by
  refine mW.of (lv' := [(0, .ref (a 0)), (1, .int room)]) (by decide) (Nat.le_of_ble_eq_true rfl) rfl ?_
  intro p e s m args below meth c E hr hlk hm hA
  refine k_iload_n E 1 rfl rfl dX2_addVat_0 ?_
  refine k_bipush E (v := 100) (by decide) dX2_addVat_1 ?_
  refine k_icmp_lt E (tgt := 13) (by decide) dX2_addVat_3 (fun c3 => absurd c3 h1) (fun c3 => ?_)
  refine k_iload_n E 1 rfl rfl dX2_addVat_6 ?_
  refine k_sipush E (v := 900) (by decide) dX2_addVat_7 ?_
  refine k_icmp_le E (tgt := 23) (by decide) dX2_addVat_10 (fun c10 => ?_) (fun c10 => absurd c10 (not_not_intro h2))
  refine k_aload_n E 0 rfl rfl dX2_addVat_23 ?_
  refine k_get E inX2 0 rfl rfl 2 (by decide) q_94 rfl rfl dX2_addVat_24 ?_
  refine k_iconst E (v := 4) (by decide) dX2_addVat_27 ?_
  refine k_icmp_lt E (tgt := 41) (by decide) dX2_addVat_28 (fun c28 => ?_) (fun c28 => absurd ((not_congr (nI_ltI (a := nv) (b := 4) (by omega) (by omega))).mp c28) (by omega))
  have c28 := (nI_ltI (a := nv) (b := 4) (by omega) (by omega)).mp c28
  refine k_aload_n E 0 rfl rfl dX2_addVat_41 ?_
  refine k_get E inX2 0 rfl rfl 3 (by decide) q_95 rfl rfl dX2_addVat_42 ?_
  refine k_aload_n E 0 rfl rfl dX2_addVat_45 ?_
  refine k_get E inX2 0 rfl rfl 2 (by decide) q_94 rfl rfl dX2_addVat_46 ?_
  refine k_iload_n E 1 rfl rfl dX2_addVat_49 ?_
  refine k_iast (y := room) (j := nv) (ws' := (wMR k a rr (nI dy) (nI nv) rounds (kB ub) (nI nb) (upd vrooms nv room) vis (nI nf) rooms tanks cows bst (nI n) farm amount mark place number paid blamed)) E 12 0 rfl rfl rfl (by omega) (by decide) rfl rfl dX2_addVat_50 ?_
  refine k_aload_n E 0 rfl rfl dX2_addVat_51 ?_
  refine k_dup E rfl dX2_addVat_52 ?_
  refine k_get E inX2 0 rfl rfl 2 (by decide) q_94 rfl rfl dX2_addVat_53 ?_
  refine k_dup_x1 E rfl rfl dX2_addVat_56 ?_
  refine k_iconst E (v := 1) (by decide) dX2_addVat_57 ?_
  refine k_iadd E dX2_addVat_58 ?_
  refine k_steq (st' := [.int (nI (nv + 1)), .ref (a 0), .int (nI nv)]) (by rw [show (nI nv) + 1 = nI (nv + 1) from nI_1 nv]) ?_
  refine k_put (ws' := (wMR k a rr (nI dy) (nI (nv + 1)) rounds (kB ub) (nI nb) (upd vrooms nv room) vis (nI nf) rooms tanks cows bst (nI n) farm amount mark place number paid blamed)) E inX2 tyX2 tyX2_ok nmX2 0 rfl rfl 2 (by decide) q_94 rfl rfl rfl rfl (Nat.le_of_ble_eq_true rfl) rfl dX2_addVat_59 ?_
  exact kw_iret E hr hlk rfl rfl (by decide) (by decide) dX2_addVat_62
set_option maxRecDepth 100000 in
set_option maxHeartbeats 4000000 in
theorem m_X2_addVat_a (l : Launch) (D : va_G) (k : Nat → ClassId) (a : Nat → Nat) (rr : Nat → Nat) (dy : Nat) (nv : Nat) (rounds : Int32) (ub : Bool) (nb : Nat) (vrooms : Nat → Int32) (vis : Nat → Int32) (nf : Nat) (rooms : Nat → Int32) (tanks : Nat → Int32) (cows : Nat → Int32) (bst : Nat → Nat → Int32) (n : Nat) (farm : Nat → Int32) (amount : Nat → Int32) (mark : Nat → Int32) (place : Nat → Int32) (number : Nat → Int32) (paid : Nat → Int32) (blamed : Nat → Int32) (room : Int32) (hlt : l.stackTraces = false) (hb : room < 100 ∨ 900 < room) : mX l yX2_addVat cX2_addVat 2 (some .int) 6 100 1 6 D (kTy k) [.ref (a 0), .int room] (wMR k a rr (nI dy) (nI nv) rounds (kB ub) (nI nb) vrooms vis (nI nf) rooms tanks cows bst (nI n) farm amount mark place number paid blamed) (.inr "java/lang/IllegalArgumentException") := by
  refine mX.of (lv' := [(0, .ref (a 0)), (1, .int room)]) (by decide) (Nat.le_of_ble_eq_true rfl) rfl ?_
  intro p e s m args below meth c E hr hlk hex hZ hA
  refine k_iload_n E 1 rfl rfl dX2_addVat_0 ?_
  refine k_bipush E (v := 100) (by decide) dX2_addVat_1 ?_
  refine k_icmp_lt E (tgt := 13) (by decide) dX2_addVat_3 (fun c3 => ?_) (fun c3 => ?_)
  · skip
    exact k_throw (cls := "java/lang/IllegalArgumentException") (text := "a vat holds 100 to 900 litres") (names := ["java/lang/RuntimeException", "java/lang/Exception"]) (ic := 52) E hlt hlk hex hZ rfl rfl rfl (by decide +kernel) (by decide +kernel) q_153 q_8 (by decide +kernel) gx_IllegalArgumentException bx_IllegalArgumentException ox_IllegalArgumentException dX2_addVat_13 dX2_addVat_16 dX2_addVat_17 dX2_addVat_19 dX2_addVat_22 (by decide) (Nat.le_of_ble_eq_true rfl) (by decide) (by decide) (by decide) (by decide)
  · skip
    refine k_iload_n E 1 rfl rfl dX2_addVat_6 ?_
    refine k_sipush E (v := 900) (by decide) dX2_addVat_7 ?_
    refine k_icmp_le E (tgt := 23) (by decide) dX2_addVat_10 (fun c10 => absurd c10 (Int32.not_le.mpr (hb.resolve_left c3))) (fun c10 => ?_)
    exact k_throw (cls := "java/lang/IllegalArgumentException") (text := "a vat holds 100 to 900 litres") (names := ["java/lang/RuntimeException", "java/lang/Exception"]) (ic := 52) E hlt hlk hex hZ rfl rfl rfl (by decide +kernel) (by decide +kernel) q_153 q_8 (by decide +kernel) gx_IllegalArgumentException bx_IllegalArgumentException ox_IllegalArgumentException dX2_addVat_13 dX2_addVat_16 dX2_addVat_17 dX2_addVat_19 dX2_addVat_22 (by decide) (Nat.le_of_ble_eq_true rfl) (by decide) (by decide) (by decide) (by decide)
set_option maxRecDepth 100000 in
set_option maxHeartbeats 4000000 in
theorem m_X2_addVat_s (l : Launch) (D : va_G) (k : Nat → ClassId) (a : Nat → Nat) (rr : Nat → Nat) (dy : Nat) (nv : Nat) (rounds : Int32) (ub : Bool) (nb : Nat) (vrooms : Nat → Int32) (vis : Nat → Int32) (nf : Nat) (rooms : Nat → Int32) (tanks : Nat → Int32) (cows : Nat → Int32) (bst : Nat → Nat → Int32) (n : Nat) (farm : Nat → Int32) (amount : Nat → Int32) (mark : Nat → Int32) (place : Nat → Int32) (number : Nat → Int32) (paid : Nat → Int32) (blamed : Nat → Int32) (room : Int32) (hlt : l.stackTraces = false) (h1 : ¬ room < 100) (h2 : room ≤ 900) (hn : nv = 4) : mX l yX2_addVat cX2_addVat 2 (some .int) 6 100 1 6 D (kTy k) [.ref (a 0), .int room] (wMR k a rr (nI dy) (nI nv) rounds (kB ub) (nI nb) vrooms vis (nI nf) rooms tanks cows bst (nI n) farm amount mark place number paid blamed) (.inr "java/lang/IllegalStateException") := by
  refine mX.of (lv' := [(0, .ref (a 0)), (1, .int room)]) (by decide) (Nat.le_of_ble_eq_true rfl) rfl ?_
  intro p e s m args below meth c E hr hlk hex hZ hA
  refine k_iload_n E 1 rfl rfl dX2_addVat_0 ?_
  refine k_bipush E (v := 100) (by decide) dX2_addVat_1 ?_
  refine k_icmp_lt E (tgt := 13) (by decide) dX2_addVat_3 (fun c3 => absurd c3 h1) (fun c3 => ?_)
  refine k_iload_n E 1 rfl rfl dX2_addVat_6 ?_
  refine k_sipush E (v := 900) (by decide) dX2_addVat_7 ?_
  refine k_icmp_le E (tgt := 23) (by decide) dX2_addVat_10 (fun c10 => ?_) (fun c10 => absurd c10 (not_not_intro h2))
  refine k_aload_n E 0 rfl rfl dX2_addVat_23 ?_
  refine k_get E inX2 0 rfl rfl 2 (by decide) q_94 rfl rfl dX2_addVat_24 ?_
  refine k_iconst E (v := 4) (by decide) dX2_addVat_27 ?_
  refine k_icmp_lt E (tgt := 41) (by decide) dX2_addVat_28 (fun c28 => absurd ((nI_ltI (a := nv) (b := 4) (by omega) (by omega)).mp c28) (by omega)) (fun c28 => ?_)
  have c28 := (not_congr (nI_ltI (a := nv) (b := 4) (by omega) (by omega))).mp c28
  exact k_throw (cls := "java/lang/IllegalStateException") (text := "there are 4 vats") (names := ["java/lang/RuntimeException", "java/lang/Exception"]) (ic := 62) E hlt hlk hex hZ rfl rfl rfl (by decide +kernel) (by decide +kernel) q_225 q_9 (by decide +kernel) gx_IllegalStateException bx_IllegalStateException ox_IllegalStateException dX2_addVat_31 dX2_addVat_34 dX2_addVat_35 dX2_addVat_37 dX2_addVat_40 (by decide) (Nat.le_of_ble_eq_true rfl) (by decide) (by decide) (by decide) (by decide)
set_option maxRecDepth 100000 in
set_option maxHeartbeats 4000000 in
theorem m_X2_beginRound (l : Launch) (D : va_G) (k : Nat → ClassId) (a : Nat → Nat) (rr : Nat → Nat) (dy : Nat) (nv : Nat) (rounds : Int32) (ub : Bool) (nb : Nat) (vrooms : Nat → Int32) (vis : Nat → Int32) (nf : Nat) (rooms : Nat → Int32) (tanks : Nat → Int32) (cows : Nat → Int32) (bst : Nat → Nat → Int32) (n : Nat) (farm : Nat → Int32) (amount : Nat → Int32) (mark : Nat → Int32) (place : Nat → Int32) (number : Nat → Int32) (paid : Nat → Int32) (blamed : Nat → Int32) (hu : ub = false) : mW l yX2_beginRound cX2_beginRound 2 (some .int) 6 100 0 0 D (kTy k) [.ref (a 0)] (wMR k a rr (nI dy) (nI nv) rounds (kB ub) (nI nb) vrooms vis (nI nf) rooms tanks cows bst (nI n) farm amount mark place number paid blamed) (some (.int (rounds + 1))) (wMR k a rr (nI dy) (nI nv) (rounds + 1) (kB true) (nI nb) vrooms (wr (fun _ => true) (fun _ => 0) vis 6) (nI nf) rooms tanks cows bst (nI n) farm amount mark place number paid blamed) := by
  refine mW.of (lv' := [(0, .ref (a 0))]) (by decide) (Nat.le_of_ble_eq_true rfl) rfl ?_
  intro p e s m args below meth c E hr hlk hm hA
  have L24 : ∀ (dn24 : Nat) (i : Nat) (vf : Nat → Int32), i + dn24 = 6 → (vf = wr (fun _ => true) (fun _ => 0) vis i) → kJ p l e (kRmc 6 100 0 0) s m args below meth c (gW D (va_A (wMR k a rr (nI dy) (nI nv) rounds (kB ub) (nI nb) vrooms vis (nI nf) rooms tanks cows bst (nI n) farm amount mark place number paid blamed) s.heap.size) s.heap) 2 0 0 (MQ below (kQw (some (.int (rounds + 1))) D (wMR k a rr (nI dy) (nI nv) rounds (kB ub) (nI nb) vrooms vis (nI nf) rooms tanks cows bst (nI n) farm amount mark place number paid blamed) (wMR k a rr (nI dy) (nI nv) (rounds + 1) (kB true) (nI nb) vrooms (wr (fun _ => true) (fun _ => 0) vis 6) (nI nf) rooms tanks cows bst (nI n) farm amount mark place number paid blamed) s.heap.size) args s 0 0 (va_A (wMR k a rr (nI dy) (nI nv) rounds (kB ub) (nI nb) vrooms vis (nI nf) rooms tanks cows bst (nI n) farm amount mark place number paid blamed) s.heap.size)) (wMR k a rr (nI dy) (nI nv) rounds 1 (nI nb) vrooms vf (nI nf) rooms tanks cows bst (nI n) farm amount mark place number paid blamed) 24 [(0, .ref (a 0)), (1, .int (nI i))] [] := by
    intro dn24
    induction dn24 with
    | zero =>
      intro i vf hd24 hv
      refine k_iload_n E 1 rfl rfl dX2_beginRound_24 ?_
      refine k_bipush E (v := 6) (by decide) dX2_beginRound_25 ?_
      refine k_icmp_ge E (tgt := 43) (by decide) dX2_beginRound_27 (fun c27 => ?_) (fun c27 => absurd ((not_congr (nI_leI (a := 6) (b := i) (by omega) (by omega))).mp c27) (by omega))
      have c27 := (nI_leI (a := 6) (b := i) (by omega) (by omega)).mp c27
      refine k_aload_n E 0 rfl rfl dX2_beginRound_43 ?_
      refine k_dup E rfl dX2_beginRound_44 ?_
      refine k_get E inX2 0 rfl rfl 4 (by decide) q_96 rfl rfl dX2_beginRound_45 ?_
      refine k_iconst E (v := 1) (by decide) dX2_beginRound_48 ?_
      refine k_iadd E dX2_beginRound_49 ?_
      refine k_put (ws' := (wMR k a rr (nI dy) (nI nv) (rounds + 1) 1 (nI nb) vrooms vf (nI nf) rooms tanks cows bst (nI n) farm amount mark place number paid blamed)) E inX2 tyX2 tyX2_ok nmX2 0 rfl rfl 4 (by decide) q_96 rfl rfl rfl rfl (Nat.le_of_ble_eq_true rfl) rfl dX2_beginRound_50 ?_
      refine k_aload_n E 0 rfl rfl dX2_beginRound_53 ?_
      refine k_get E inX2 0 rfl rfl 4 (by decide) q_96 rfl rfl dX2_beginRound_54 ?_
      exact kw_iret E hr hlk rfl (by rw [hv, show i = 6 by omega]; rfl) (by decide) (by decide) dX2_beginRound_57
    | succ dn24 ih24 =>
      intro i vf hd24 hv
      refine k_iload_n E 1 rfl rfl dX2_beginRound_24 ?_
      refine k_bipush E (v := 6) (by decide) dX2_beginRound_25 ?_
      refine k_icmp_ge E (tgt := 43) (by decide) dX2_beginRound_27 (fun c27 => absurd ((nI_leI (a := 6) (b := i) (by omega) (by omega)).mp c27) (by omega)) (fun c27 => ?_)
      have c27 := (not_congr (nI_leI (a := 6) (b := i) (by omega) (by omega))).mp c27
      refine k_aload_n E 0 rfl rfl dX2_beginRound_30 ?_
      refine k_get E inX2 0 rfl rfl 6 (by decide) q_98 rfl rfl dX2_beginRound_31 ?_
      refine k_iload_n E 1 rfl rfl dX2_beginRound_34 ?_
      refine k_iconst E (v := 0) (by decide) dX2_beginRound_35 ?_
      refine k_zast (y := 0) (j := i) (ws' := (wMR k a rr (nI dy) (nI nv) rounds 1 (nI nb) vrooms (upd vf i 0) (nI nf) rooms tanks cows bst (nI n) farm amount mark place number paid blamed)) E 13 2 rfl rfl rfl (by omega) (by decide) (by decide) rfl dX2_beginRound_36 ?_
      refine k_iinc (q := 1) (v := nI (i + 1)) (lv' := [(1, .int (nI (i + 1))), (0, .ref (a 0))]) E rfl (nI_inc _) (by decide) rfl dX2_beginRound_37 ?_
      refine k_goto E (tgt := 24) (by decide) dX2_beginRound_40 ?_
      refine k_lv [1, 0] rfl ?_
      exact ih24 (i + 1) (upd vf i 0) (by omega) (by rw [hv]; exact wr_t (v := fun _ => 0) rfl)
  refine k_aload_n E 0 rfl rfl dX2_beginRound_0 ?_
  refine k_get E inX2 0 rfl rfl 5 (by decide) q_97 rfl rfl dX2_beginRound_1 ?_
  refine k_if_eq E (tgt := 17) (by decide) dX2_beginRound_4 (fun c4 => ?_) (fun c4 => absurd (kB_t c4) (by rw [hu]; decide))
  have c4 := kB_f c4
  refine k_aload_n E 0 rfl rfl dX2_beginRound_17 ?_
  refine k_iconst E (v := 1) (by decide) dX2_beginRound_18 ?_
  refine k_put (ws' := (wMR k a rr (nI dy) (nI nv) rounds 1 (nI nb) vrooms vis (nI nf) rooms tanks cows bst (nI n) farm amount mark place number paid blamed)) E inX2 tyX2 tyX2_ok nmX2 0 rfl rfl 5 (by decide) q_97 rfl rfl rfl rfl (Nat.le_of_ble_eq_true rfl) rfl dX2_beginRound_19 ?_
  refine k_iconst E (v := 0) (by decide) dX2_beginRound_22 ?_
  refine k_istore_n (lv' := [(1, .int 0), (0, .ref (a 0))]) E rfl (by decide) rfl dX2_beginRound_23 ?_
  refine k_lv [1, 0] rfl ?_
  exact L24 (6 - 0) 0 vis (by omega) (wr_0 _ _ _).symm
set_option maxRecDepth 100000 in
set_option maxHeartbeats 4000000 in
theorem m_X2_beginRound_s (l : Launch) (D : va_G) (k : Nat → ClassId) (a : Nat → Nat) (rr : Nat → Nat) (dy : Nat) (nv : Nat) (rounds : Int32) (ub : Bool) (nb : Nat) (vrooms : Nat → Int32) (vis : Nat → Int32) (nf : Nat) (rooms : Nat → Int32) (tanks : Nat → Int32) (cows : Nat → Int32) (bst : Nat → Nat → Int32) (n : Nat) (farm : Nat → Int32) (amount : Nat → Int32) (mark : Nat → Int32) (place : Nat → Int32) (number : Nat → Int32) (paid : Nat → Int32) (blamed : Nat → Int32) (hlt : l.stackTraces = false) (hu : ub = true) : mX l yX2_beginRound cX2_beginRound 2 (some .int) 6 100 1 6 D (kTy k) [.ref (a 0)] (wMR k a rr (nI dy) (nI nv) rounds (kB ub) (nI nb) vrooms vis (nI nf) rooms tanks cows bst (nI n) farm amount mark place number paid blamed) (.inr "java/lang/IllegalStateException") := by
  refine mX.of (lv' := [(0, .ref (a 0))]) (by decide) (Nat.le_of_ble_eq_true rfl) rfl ?_
  intro p e s m args below meth c E hr hlk hex hZ hA
  refine k_aload_n E 0 rfl rfl dX2_beginRound_0 ?_
  refine k_get E inX2 0 rfl rfl 5 (by decide) q_97 rfl rfl dX2_beginRound_1 ?_
  refine k_if_eq E (tgt := 17) (by decide) dX2_beginRound_4 (fun c4 => absurd (kB_f c4) (by rw [hu]; decide)) (fun c4 => ?_)
  have c4 := kB_t c4
  exact k_throw (cls := "java/lang/IllegalStateException") (text := "a round is under way") (names := ["java/lang/RuntimeException", "java/lang/Exception"]) (ic := 62) E hlt hlk hex hZ rfl rfl rfl (by decide +kernel) (by decide +kernel) q_225 q_9 (by decide +kernel) gx_IllegalStateException bx_IllegalStateException ox_IllegalStateException dX2_beginRound_7 dX2_beginRound_10 dX2_beginRound_11 dX2_beginRound_13 dX2_beginRound_16 (by decide) (Nat.le_of_ble_eq_true rfl) (by decide) (by decide) (by decide) (by decide)
set_option maxRecDepth 100000 in
set_option maxHeartbeats 4000000 in
theorem m_X2_inTanker (l : Launch) (D : va_G) (k : Nat → ClassId) (a : Nat → Nat) (rr : Nat → Nat) (dy : Nat) (nv : Nat) (rounds : Int32) (ub : Bool) (nb : Nat) (vrooms : Nat → Int32) (vis : Nat → Int32) (nf : Nat) (rooms : Nat → Int32) (tanks : Nat → Int32) (cows : Nat → Int32) (bst : Nat → Nat → Int32) (n : Nat) (farm : Nat → Int32) (amount : Nat → Int32) (mark : Nat → Int32) (place : Nat → Int32) (number : Nat → Int32) (paid : Nat → Int32) (blamed : Nat → Int32) (hn : n ≤ 100) : mR l yX2_inTanker cX2_inTanker 1 (some .int) 2 47 D (kTy k) [.ref (a 0)] (wMR k a rr (nI dy) (nI nv) rounds (kB ub) (nI nb) vrooms vis (nI nf) rooms tanks cows bst (nI n) farm amount mark place number paid blamed) (some (.int (inTk place number amount n))) := by
  refine mR.of (lv' := [(0, .ref (a 0))]) (by decide) (Nat.le_of_ble_eq_true rfl) rfl ?_
  intro p e s m args below meth c E hr hlk
  refine k_aload_n E 0 rfl rfl dX2_inTanker_0 ?_
  refine k_get E inX2 0 rfl rfl 7 (by decide) q_99 rfl rfl dX2_inTanker_1 ?_
  refine k_bipush E (v := 116) (by decide) dX2_inTanker_4 ?_
  refine k_iconst E (v := 0) (by decide) dX2_inTanker_6 ?_
  refine k_callRVN [.int 116, .int 0] E (m_X1_litresIn l D k (a 8) (a 9) (a 10) (a 11) (a 12) (a 13) (a 14) (a 15) n farm amount mark place number paid blamed 116 0 (by first | assumption | omega)) cf_X1_litresIn rfl (by decide +kernel) [14, 15, 16, 17, 18, 19, 20, 21] rfl 14 rfl rfl rfl rfl ⟨by decide, by decide⟩ (Nat.le_of_ble_eq_true rfl) ⟨by decide, by decide⟩ dX2_inTanker_7 ?_
  refine k_steq (st' := [.int (sI (cIn place number 116 0) amount n)]) rfl ?_
  exact kr_iret E hr hlk rfl dX2_inTanker_10
set_option maxRecDepth 100000 in
set_option maxHeartbeats 4000000 in
theorem m_X2_inVat (l : Launch) (D : va_G) (k : Nat → ClassId) (a : Nat → Nat) (rr : Nat → Nat) (dy : Nat) (nv : Nat) (rounds : Int32) (ub : Bool) (nb : Nat) (vrooms : Nat → Int32) (vis : Nat → Int32) (nf : Nat) (rooms : Nat → Int32) (tanks : Nat → Int32) (cows : Nat → Int32) (bst : Nat → Nat → Int32) (n : Nat) (farm : Nat → Int32) (amount : Nat → Int32) (mark : Nat → Int32) (place : Nat → Int32) (number : Nat → Int32) (paid : Nat → Int32) (blamed : Nat → Int32) (j : Nat) (hj : j < nv) (hnv : nv ≤ 4) (hn : n ≤ 100) : mR l yX2_inVat cX2_inVat 2 (some .int) 7 121 D (kTy k) [.ref (a 0), .int (nI j)] (wMR k a rr (nI dy) (nI nv) rounds (kB ub) (nI nb) vrooms vis (nI nf) rooms tanks cows bst (nI n) farm amount mark place number paid blamed) (some (.int (inVt place number amount (nI j) n))) := by
  refine mR.of (lv' := [(0, .ref (a 0)), (1, .int (nI j))]) (by decide) (Nat.le_of_ble_eq_true rfl) rfl ?_
  intro p e s m args below meth c E hr hlk
  refine k_aload_n E 0 rfl rfl dX2_inVat_0 ?_
  refine k_iload_n E 1 rfl rfl dX2_inVat_1 ?_
  refine k_callRV [.int (nI j)] E (m_X2_requireVat l D k a rr dy nv rounds ub nb vrooms vis nf rooms tanks cows bst n farm amount mark place number paid blamed j (by first | assumption | omega) (by first | assumption | omega)) cf_X2_requireVat q_387 [0, 1, 2, 3, 4, 5, 6, 7, 8, 9, 10, 11, 12, 13, 14, 15, 16, 17, 18, 19, 20, 21] rfl 0 rfl rfl rfl rfl ⟨by decide, by decide⟩ (Nat.le_of_ble_eq_true rfl) ⟨by decide, by decide⟩ dX2_inVat_2 ?_
  refine k_steq (st' := []) rfl ?_
  refine k_aload_n E 0 rfl rfl dX2_inVat_5 ?_
  refine k_get E inX2 0 rfl rfl 7 (by decide) q_99 rfl rfl dX2_inVat_6 ?_
  refine k_bipush E (v := 118) (by decide) dX2_inVat_9 ?_
  refine k_iload_n E 1 rfl rfl dX2_inVat_11 ?_
  refine k_callRVN [.int 118, .int (nI j)] E (m_X1_litresIn l D k (a 8) (a 9) (a 10) (a 11) (a 12) (a 13) (a 14) (a 15) n farm amount mark place number paid blamed 118 (nI j) (by first | assumption | omega)) cf_X1_litresIn rfl (by decide +kernel) [14, 15, 16, 17, 18, 19, 20, 21] rfl 14 rfl rfl rfl rfl ⟨by decide, by decide⟩ (Nat.le_of_ble_eq_true rfl) ⟨by decide, by decide⟩ dX2_inVat_12 ?_
  refine k_steq (st' := [.int (sI (cIn place number 118 (nI j)) amount n)]) rfl ?_
  exact kr_iret E hr hlk rfl dX2_inVat_15
set_option maxRecDepth 100000 in
set_option maxHeartbeats 4000000 in
theorem m_X2_inVat_i (l : Launch) (D : va_G) (k : Nat → ClassId) (a : Nat → Nat) (rr : Nat → Nat) (dy : Nat) (nv : Nat) (rounds : Int32) (ub : Bool) (nb : Nat) (vrooms : Nat → Int32) (vis : Nat → Int32) (nf : Nat) (rooms : Nat → Int32) (tanks : Nat → Int32) (cows : Nat → Int32) (bst : Nat → Nat → Int32) (n : Nat) (farm : Nat → Int32) (amount : Nat → Int32) (mark : Nat → Int32) (place : Nat → Int32) (number : Nat → Int32) (paid : Nat → Int32) (blamed : Nat → Int32) (fa : Int32) (hlt : l.stackTraces = false) (hb : fa < 0 ∨ nI nv ≤ fa) : mX l yX2_inVat cX2_inVat 2 (some .int) 7 121 1 6 D (kTy k) [.ref (a 0), .int fa] (wMR k a rr (nI dy) (nI nv) rounds (kB ub) (nI nb) vrooms vis (nI nf) rooms tanks cows bst (nI n) farm amount mark place number paid blamed) (.inr "java/lang/IndexOutOfBoundsException") := by
  refine mX.of (lv' := [(0, .ref (a 0)), (1, .int fa)]) (by decide) (Nat.le_of_ble_eq_true rfl) rfl ?_
  intro p e s m args below meth c E hr hlk hex hZ hA
  refine k_aload_n E 0 rfl rfl dX2_inVat_0 ?_
  refine k_iload_n E 1 rfl rfl dX2_inVat_1 ?_
  refine k_callXV [.int fa] E hA hZ (m_X2_requireVat_b l D k a rr dy nv rounds ub nb vrooms vis nf rooms tanks cows bst n farm amount mark place number paid blamed fa hlt (by first | assumption | omega)) cf_X2_requireVat q_387 [] [] rfl 0 rfl rfl rfl rfl ⟨by decide, by decide⟩ (Nat.le_of_ble_eq_true rfl) ⟨by decide, by decide⟩ dX2_inVat_2 (fun v1 W1 ho => by cases ho) (fun X1 ho => ?_)
  cases ho
  exact k_xout hlk hex rfl rfl (by decide) (by decide)
set_option maxRecDepth 100000 in
set_option maxHeartbeats 4000000 in
theorem m_X2_freeRoom (l : Launch) (D : va_G) (k : Nat → ClassId) (a : Nat → Nat) (rr : Nat → Nat) (dy : Nat) (nv : Nat) (rounds : Int32) (ub : Bool) (nb : Nat) (vrooms : Nat → Int32) (vis : Nat → Int32) (nf : Nat) (rooms : Nat → Int32) (tanks : Nat → Int32) (cows : Nat → Int32) (bst : Nat → Nat → Int32) (n : Nat) (farm : Nat → Int32) (amount : Nat → Int32) (mark : Nat → Int32) (place : Nat → Int32) (number : Nat → Int32) (paid : Nat → Int32) (blamed : Nat → Int32) (j : Nat) (hj : j < nv) (hnv : nv ≤ 4) (hn : n ≤ 100) : mR l yX2_freeRoom cX2_freeRoom 2 (some .int) 8 142 D (kTy k) [.ref (a 0), .int (nI j)] (wMR k a rr (nI dy) (nI nv) rounds (kB ub) (nI nb) vrooms vis (nI nf) rooms tanks cows bst (nI n) farm amount mark place number paid blamed) (some (.int (vrooms j - inVt place number amount (nI j) n))) := by
  refine mR.of (lv' := [(0, .ref (a 0)), (1, .int (nI j))]) (by decide) (Nat.le_of_ble_eq_true rfl) rfl ?_
  intro p e s m args below meth c E hr hlk
  refine k_aload_n E 0 rfl rfl dX2_freeRoom_0 ?_
  refine k_get E inX2 0 rfl rfl 3 (by decide) q_95 rfl rfl dX2_freeRoom_1 ?_
  refine k_iload_n E 1 rfl rfl dX2_freeRoom_4 ?_
  refine k_iald E (j := j) 12 0 rfl rfl rfl (by omega) (by decide) dX2_freeRoom_5 ?_
  refine k_aload_n E 0 rfl rfl dX2_freeRoom_6 ?_
  refine k_iload_n E 1 rfl rfl dX2_freeRoom_7 ?_
  refine k_callRV [.int (nI j)] E (m_X2_inVat l D k a rr dy nv rounds ub nb vrooms vis nf rooms tanks cows bst n farm amount mark place number paid blamed j (by first | assumption | omega) (by first | assumption | omega) (by first | assumption | omega)) cf_X2_inVat q_396 [0, 1, 2, 3, 4, 5, 6, 7, 8, 9, 10, 11, 12, 13, 14, 15, 16, 17, 18, 19, 20, 21] rfl 0 rfl rfl rfl rfl ⟨by decide, by decide⟩ (Nat.le_of_ble_eq_true rfl) ⟨by decide, by decide⟩ dX2_freeRoom_8 ?_
  refine k_steq (st' := [.int (inVt place number amount (nI j) n), .int (vrooms j)]) rfl ?_
  refine k_isub E dX2_freeRoom_11 ?_
  exact kr_iret E hr hlk rfl dX2_freeRoom_12
set_option maxRecDepth 100000 in
set_option maxHeartbeats 4000000 in
theorem m_X2_visit (l : Launch) (D : va_G) (k : Nat → ClassId) (a : Nat → Nat) (rr : Nat → Nat) (dy : Nat) (nv : Nat) (rounds : Int32) (ub : Bool) (nb : Nat) (vrooms : Nat → Int32) (vis : Nat → Int32) (nf : Nat) (rooms : Nat → Int32) (tanks : Nat → Int32) (cows : Nat → Int32) (bst : Nat → Nat → Int32) (n : Nat) (farm : Nat → Int32) (amount : Nat → Int32) (mark : Nat → Int32) (place : Nat → Int32) (number : Nat → Int32) (paid : Nat → Int32) (blamed : Nat → Int32) (j : Nat) (hj : j < nf) (hnf : nf ≤ 6) (hu : ub = true) (hv : vis j = 0) (hn : n < 100) (hd : 0 < minI (tanks j) (400 - inTk place number amount n)) : mW l yX2_visit cX2_visit 3 (some .int) 7 121 0 0 D (kTy k) [.ref (a 0), .int (nI j)] (wMR k a rr (nI dy) (nI nv) rounds (kB ub) (nI nb) vrooms vis (nI nf) rooms tanks cows bst (nI n) farm amount mark place number paid blamed) (some (.int (minI (tanks j) (400 - inTk place number amount n)))) (wMR k a rr (nI dy) (nI nv) rounds (kB ub) (nI nb) vrooms (upd vis j 1) (nI nf) rooms (upd tanks j (tanks j - minI (tanks j) (400 - inTk place number amount n))) cows bst (nI (n + 1)) (upd farm n (nI j)) (upd amount n (minI (tanks j) (400 - inTk place number amount n))) (upd mark n 45) (upd place n 116) (upd number n 0) paid blamed) := by
  refine mW.of (lv' := [(0, .ref (a 0)), (1, .int (nI j))]) (by decide) (Nat.le_of_ble_eq_true rfl) rfl ?_
  intro p e s m args below meth c E hr hlk hm hA
  refine k_aload_n E 0 rfl rfl dX2_visit_0 ?_
  refine k_iload_n E 1 rfl rfl dX2_visit_1 ?_
  refine k_callRV [.int (nI j)] E (m_X2_requireFarm l D k a rr dy nv rounds ub nb vrooms vis nf rooms tanks cows bst n farm amount mark place number paid blamed j (by first | assumption | omega) (by first | assumption | omega)) cf_X2_requireFarm q_276 [0, 1, 2, 3, 4, 5, 6, 7, 8, 9, 10, 11, 12, 13, 14, 15, 16, 17, 18, 19, 20, 21] rfl 0 rfl rfl rfl rfl ⟨by decide, by decide⟩ (Nat.le_of_ble_eq_true rfl) ⟨by decide, by decide⟩ dX2_visit_2 ?_
  refine k_steq (st' := []) rfl ?_
  refine k_aload_n E 0 rfl rfl dX2_visit_5 ?_
  refine k_get E inX2 0 rfl rfl 5 (by decide) q_97 rfl rfl dX2_visit_6 ?_
  refine k_if_ne E (tgt := 22) (by decide) dX2_visit_9 (fun c9 => ?_) (fun c9 => absurd (kB_f c9) (by rw [hu]; decide))
  have c9 := kB_t c9
  refine k_aload_n E 0 rfl rfl dX2_visit_22 ?_
  refine k_get E inX2 0 rfl rfl 6 (by decide) q_98 rfl rfl dX2_visit_23 ?_
  refine k_iload_n E 1 rfl rfl dX2_visit_26 ?_
  refine k_zald E (j := j) 13 2 rfl rfl rfl (by omega) (by decide) dX2_visit_27 ?_
  refine k_if_eq E (tgt := 41) (by decide) dX2_visit_28 (fun c28 => ?_) (fun c28 => absurd c28 (not_not_intro hv))
  refine k_aload_n E 0 rfl rfl dX2_visit_41 ?_
  refine k_get E inX2 0 rfl rfl 7 (by decide) q_99 rfl rfl dX2_visit_42 ?_
  refine k_getN E inX1 14 rfl rfl 0 (by decide) rfl (by decide +kernel) rfl rfl dX2_visit_45 ?_
  refine k_bipush E (v := 100) (by decide) dX2_visit_48 ?_
  refine k_icmp_lt E (tgt := 63) (by decide) dX2_visit_50 (fun c50 => ?_) (fun c50 => absurd ((not_congr (nI_ltI (a := n) (b := 100) (by omega) (by omega))).mp c50) (by omega))
  have c50 := (nI_ltI (a := n) (b := 100) (by omega) (by omega)).mp c50
  refine k_aload_n E 0 rfl rfl dX2_visit_63 ?_
  refine k_get E inX2 0 rfl rfl 1 (by decide) q_93 rfl rfl dX2_visit_64 ?_
  refine k_iload_n E 1 rfl rfl dX2_visit_67 ?_
  refine k_sipush E (v := 400) (by decide) dX2_visit_68 ?_
  refine k_aload_n E 0 rfl rfl dX2_visit_71 ?_
  refine k_callRV [] E (m_X2_inTanker l D k a rr dy nv rounds ub nb vrooms vis nf rooms tanks cows bst n farm amount mark place number paid blamed (by first | assumption | omega)) cf_X2_inTanker q_370 [0, 1, 2, 3, 4, 5, 6, 7, 8, 9, 10, 11, 12, 13, 14, 15, 16, 17, 18, 19, 20, 21] rfl 0 rfl rfl rfl rfl ⟨by decide, by decide⟩ (Nat.le_of_ble_eq_true rfl) ⟨by decide, by decide⟩ dX2_visit_72 ?_
  refine k_steq (st' := [.int (inTk place number amount n), .int 400, .int (nI j), .ref (a 1)]) rfl ?_
  refine k_isub E dX2_visit_75 ?_
  refine k_callWVN [.int (nI j), .int (400 - (inTk place number amount n))] E hA (m_X0_draw l D k (a 1) (a 2) (a 3) (a 4) (a 5) rr nf rooms tanks cows bst j (400 - (inTk place number amount n)) (by first | assumption | omega)) cf_X0_draw rfl (by decide +kernel) [oMR a (nI dy) (nI nv) rounds (kB ub) (nI nb)] (yMR k a vrooms vis (nI n) farm amount mark place number paid blamed) (ws' := (wMR k a rr (nI dy) (nI nv) rounds (kB ub) (nI nb) vrooms vis (nI nf) rooms (upd tanks j (tanks j - minI (tanks j) (400 - (inTk place number amount n)))) cows bst (nI n) farm amount mark place number paid blamed)) rfl rfl 1 rfl rfl rfl rfl ⟨by decide, by decide⟩ (Nat.le_of_ble_eq_true rfl) ⟨by decide, by decide⟩ dX2_visit_76 ?_
  refine k_steq (st' := [.int (minI (tanks j) (400 - (inTk place number amount n)))]) rfl ?_
  refine k_istore_n (lv' := [(2, .int (minI (tanks j) (400 - (inTk place number amount n)))), (0, .ref (a 0)), (1, .int (nI j))]) E rfl (by decide) rfl dX2_visit_79 ?_
  refine k_aload_n E 1 rfl rfl dX2_visit_80 ?_
  refine k_get E inX2 0 rfl rfl 6 (by decide) q_98 rfl rfl dX2_visit_81 ?_
  refine k_iload_n E 2 rfl rfl dX2_visit_84 ?_
  refine k_iconst E (v := 1) (by decide) dX2_visit_85 ?_
  refine k_zast (y := 1) (j := j) (ws' := (wMR k a rr (nI dy) (nI nv) rounds (kB ub) (nI nb) vrooms (upd vis j 1) (nI nf) rooms (upd tanks j (tanks j - minI (tanks j) (400 - (inTk place number amount n)))) cows bst (nI n) farm amount mark place number paid blamed)) E 13 2 rfl rfl rfl (by omega) (by decide) (by decide) rfl dX2_visit_86 ?_
  refine k_iload_n E 0 rfl rfl dX2_visit_87 ?_
  refine k_if_le E (tgt := 100) (by decide) dX2_visit_88 (fun c88 => absurd c88 (Int32.not_le.mpr hd)) (fun c88 => ?_)
  refine k_aload_n E 1 rfl rfl dX2_visit_91 ?_
  refine k_get E inX2 0 rfl rfl 7 (by decide) q_99 rfl rfl dX2_visit_92 ?_
  refine k_iload_n E 2 rfl rfl dX2_visit_95 ?_
  refine k_iload_n E 0 rfl rfl dX2_visit_96 ?_
  refine k_callWVN [.int (nI j), .int (minI (tanks j) (400 - (inTk place number amount n)))] E hA (m_X1_add l D k (a 8) (a 9) (a 10) (a 11) (a 12) (a 13) (a 14) (a 15) n farm amount mark place number paid blamed (nI j) (minI (tanks j) (400 - (inTk place number amount n))) (by first | assumption | omega)) cf_X1_add rfl (by decide +kernel) (xMR k a rr (nI dy) (nI nv) rounds (kB ub) (nI nb) vrooms (upd vis j 1) (nI nf) rooms (upd tanks j (tanks j - minI (tanks j) (400 - (inTk place number amount n)))) cows bst) [] (ws' := (wMR k a rr (nI dy) (nI nv) rounds (kB ub) (nI nb) vrooms (upd vis j 1) (nI nf) rooms (upd tanks j (tanks j - minI (tanks j) (400 - (inTk place number amount n)))) cows bst (nI (n + 1)) (upd farm n (nI j)) (upd amount n (minI (tanks j) (400 - (inTk place number amount n)))) (upd mark n 45) (upd place n 116) (upd number n 0) paid blamed)) rfl rfl 14 rfl rfl rfl rfl ⟨by decide, by decide⟩ (Nat.le_of_ble_eq_true rfl) ⟨by decide, by decide⟩ dX2_visit_97 ?_
  refine k_steq (st' := []) rfl ?_
  refine k_iload_n E 0 rfl rfl dX2_visit_100 ?_
  exact kw_iret E hr hlk rfl rfl (by decide) (by decide) dX2_visit_101
set_option maxRecDepth 100000 in
set_option maxHeartbeats 4000000 in
theorem m_X2_visit0 (l : Launch) (D : va_G) (k : Nat → ClassId) (a : Nat → Nat) (rr : Nat → Nat) (dy : Nat) (nv : Nat) (rounds : Int32) (ub : Bool) (nb : Nat) (vrooms : Nat → Int32) (vis : Nat → Int32) (nf : Nat) (rooms : Nat → Int32) (tanks : Nat → Int32) (cows : Nat → Int32) (bst : Nat → Nat → Int32) (n : Nat) (farm : Nat → Int32) (amount : Nat → Int32) (mark : Nat → Int32) (place : Nat → Int32) (number : Nat → Int32) (paid : Nat → Int32) (blamed : Nat → Int32) (j : Nat) (hj : j < nf) (hnf : nf ≤ 6) (hu : ub = true) (hv : vis j = 0) (hn : n < 100) (hd : minI (tanks j) (400 - inTk place number amount n) ≤ 0) : mW l yX2_visit cX2_visit 3 (some .int) 7 121 0 0 D (kTy k) [.ref (a 0), .int (nI j)] (wMR k a rr (nI dy) (nI nv) rounds (kB ub) (nI nb) vrooms vis (nI nf) rooms tanks cows bst (nI n) farm amount mark place number paid blamed) (some (.int (minI (tanks j) (400 - inTk place number amount n)))) (wMR k a rr (nI dy) (nI nv) rounds (kB ub) (nI nb) vrooms (upd vis j 1) (nI nf) rooms (upd tanks j (tanks j - minI (tanks j) (400 - inTk place number amount n))) cows bst (nI n) farm amount mark place number paid blamed) := by
  refine mW.of (lv' := [(0, .ref (a 0)), (1, .int (nI j))]) (by decide) (Nat.le_of_ble_eq_true rfl) rfl ?_
  intro p e s m args below meth c E hr hlk hm hA
  refine k_aload_n E 0 rfl rfl dX2_visit_0 ?_
  refine k_iload_n E 1 rfl rfl dX2_visit_1 ?_
  refine k_callRV [.int (nI j)] E (m_X2_requireFarm l D k a rr dy nv rounds ub nb vrooms vis nf rooms tanks cows bst n farm amount mark place number paid blamed j (by first | assumption | omega) (by first | assumption | omega)) cf_X2_requireFarm q_276 [0, 1, 2, 3, 4, 5, 6, 7, 8, 9, 10, 11, 12, 13, 14, 15, 16, 17, 18, 19, 20, 21] rfl 0 rfl rfl rfl rfl ⟨by decide, by decide⟩ (Nat.le_of_ble_eq_true rfl) ⟨by decide, by decide⟩ dX2_visit_2 ?_
  refine k_steq (st' := []) rfl ?_
  refine k_aload_n E 0 rfl rfl dX2_visit_5 ?_
  refine k_get E inX2 0 rfl rfl 5 (by decide) q_97 rfl rfl dX2_visit_6 ?_
  refine k_if_ne E (tgt := 22) (by decide) dX2_visit_9 (fun c9 => ?_) (fun c9 => absurd (kB_f c9) (by rw [hu]; decide))
  have c9 := kB_t c9
  refine k_aload_n E 0 rfl rfl dX2_visit_22 ?_
  refine k_get E inX2 0 rfl rfl 6 (by decide) q_98 rfl rfl dX2_visit_23 ?_
  refine k_iload_n E 1 rfl rfl dX2_visit_26 ?_
  refine k_zald E (j := j) 13 2 rfl rfl rfl (by omega) (by decide) dX2_visit_27 ?_
  refine k_if_eq E (tgt := 41) (by decide) dX2_visit_28 (fun c28 => ?_) (fun c28 => absurd c28 (not_not_intro hv))
  refine k_aload_n E 0 rfl rfl dX2_visit_41 ?_
  refine k_get E inX2 0 rfl rfl 7 (by decide) q_99 rfl rfl dX2_visit_42 ?_
  refine k_getN E inX1 14 rfl rfl 0 (by decide) rfl (by decide +kernel) rfl rfl dX2_visit_45 ?_
  refine k_bipush E (v := 100) (by decide) dX2_visit_48 ?_
  refine k_icmp_lt E (tgt := 63) (by decide) dX2_visit_50 (fun c50 => ?_) (fun c50 => absurd ((not_congr (nI_ltI (a := n) (b := 100) (by omega) (by omega))).mp c50) (by omega))
  have c50 := (nI_ltI (a := n) (b := 100) (by omega) (by omega)).mp c50
  refine k_aload_n E 0 rfl rfl dX2_visit_63 ?_
  refine k_get E inX2 0 rfl rfl 1 (by decide) q_93 rfl rfl dX2_visit_64 ?_
  refine k_iload_n E 1 rfl rfl dX2_visit_67 ?_
  refine k_sipush E (v := 400) (by decide) dX2_visit_68 ?_
  refine k_aload_n E 0 rfl rfl dX2_visit_71 ?_
  refine k_callRV [] E (m_X2_inTanker l D k a rr dy nv rounds ub nb vrooms vis nf rooms tanks cows bst n farm amount mark place number paid blamed (by first | assumption | omega)) cf_X2_inTanker q_370 [0, 1, 2, 3, 4, 5, 6, 7, 8, 9, 10, 11, 12, 13, 14, 15, 16, 17, 18, 19, 20, 21] rfl 0 rfl rfl rfl rfl ⟨by decide, by decide⟩ (Nat.le_of_ble_eq_true rfl) ⟨by decide, by decide⟩ dX2_visit_72 ?_
  refine k_steq (st' := [.int (inTk place number amount n), .int 400, .int (nI j), .ref (a 1)]) rfl ?_
  refine k_isub E dX2_visit_75 ?_
  refine k_callWVN [.int (nI j), .int (400 - (inTk place number amount n))] E hA (m_X0_draw l D k (a 1) (a 2) (a 3) (a 4) (a 5) rr nf rooms tanks cows bst j (400 - (inTk place number amount n)) (by first | assumption | omega)) cf_X0_draw rfl (by decide +kernel) [oMR a (nI dy) (nI nv) rounds (kB ub) (nI nb)] (yMR k a vrooms vis (nI n) farm amount mark place number paid blamed) (ws' := (wMR k a rr (nI dy) (nI nv) rounds (kB ub) (nI nb) vrooms vis (nI nf) rooms (upd tanks j (tanks j - minI (tanks j) (400 - (inTk place number amount n)))) cows bst (nI n) farm amount mark place number paid blamed)) rfl rfl 1 rfl rfl rfl rfl ⟨by decide, by decide⟩ (Nat.le_of_ble_eq_true rfl) ⟨by decide, by decide⟩ dX2_visit_76 ?_
  refine k_steq (st' := [.int (minI (tanks j) (400 - (inTk place number amount n)))]) rfl ?_
  refine k_istore_n (lv' := [(2, .int (minI (tanks j) (400 - (inTk place number amount n)))), (0, .ref (a 0)), (1, .int (nI j))]) E rfl (by decide) rfl dX2_visit_79 ?_
  refine k_aload_n E 1 rfl rfl dX2_visit_80 ?_
  refine k_get E inX2 0 rfl rfl 6 (by decide) q_98 rfl rfl dX2_visit_81 ?_
  refine k_iload_n E 2 rfl rfl dX2_visit_84 ?_
  refine k_iconst E (v := 1) (by decide) dX2_visit_85 ?_
  refine k_zast (y := 1) (j := j) (ws' := (wMR k a rr (nI dy) (nI nv) rounds (kB ub) (nI nb) vrooms (upd vis j 1) (nI nf) rooms (upd tanks j (tanks j - minI (tanks j) (400 - (inTk place number amount n)))) cows bst (nI n) farm amount mark place number paid blamed)) E 13 2 rfl rfl rfl (by omega) (by decide) (by decide) rfl dX2_visit_86 ?_
  refine k_iload_n E 0 rfl rfl dX2_visit_87 ?_
  refine k_if_le E (tgt := 100) (by decide) dX2_visit_88 (fun c88 => ?_) (fun c88 => absurd c88 (not_not_intro hd))
  refine k_iload_n E 0 rfl rfl dX2_visit_100 ?_
  exact kw_iret E hr hlk rfl rfl (by decide) (by decide) dX2_visit_101
set_option maxRecDepth 100000 in
set_option maxHeartbeats 4000000 in
theorem m_X2_visit_i (l : Launch) (D : va_G) (k : Nat → ClassId) (a : Nat → Nat) (rr : Nat → Nat) (dy : Nat) (nv : Nat) (rounds : Int32) (ub : Bool) (nb : Nat) (vrooms : Nat → Int32) (vis : Nat → Int32) (nf : Nat) (rooms : Nat → Int32) (tanks : Nat → Int32) (cows : Nat → Int32) (bst : Nat → Nat → Int32) (n : Nat) (farm : Nat → Int32) (amount : Nat → Int32) (mark : Nat → Int32) (place : Nat → Int32) (number : Nat → Int32) (paid : Nat → Int32) (blamed : Nat → Int32) (fa : Int32) (hlt : l.stackTraces = false) (hb : fa < 0 ∨ nI nf ≤ fa) : mX l yX2_visit cX2_visit 3 (some .int) 7 121 1 6 D (kTy k) [.ref (a 0), .int fa] (wMR k a rr (nI dy) (nI nv) rounds (kB ub) (nI nb) vrooms vis (nI nf) rooms tanks cows bst (nI n) farm amount mark place number paid blamed) (.inr "java/lang/IndexOutOfBoundsException") := by
  refine mX.of (lv' := [(0, .ref (a 0)), (1, .int fa)]) (by decide) (Nat.le_of_ble_eq_true rfl) rfl ?_
  intro p e s m args below meth c E hr hlk hex hZ hA
  refine k_aload_n E 0 rfl rfl dX2_visit_0 ?_
  refine k_iload_n E 1 rfl rfl dX2_visit_1 ?_
  refine k_callXV [.int fa] E hA hZ (m_X2_requireFarm_b l D k a rr dy nv rounds ub nb vrooms vis nf rooms tanks cows bst n farm amount mark place number paid blamed fa hlt (by first | assumption | omega)) cf_X2_requireFarm q_276 [] [] rfl 0 rfl rfl rfl rfl ⟨by decide, by decide⟩ (Nat.le_of_ble_eq_true rfl) ⟨by decide, by decide⟩ dX2_visit_2 (fun v1 W1 ho => by cases ho) (fun X1 ho => ?_)
  cases ho
  exact k_xout hlk hex rfl rfl (by decide) (by decide)
set_option maxRecDepth 100000 in
set_option maxHeartbeats 4000000 in
theorem m_X2_visit_s1 (l : Launch) (D : va_G) (k : Nat → ClassId) (a : Nat → Nat) (rr : Nat → Nat) (dy : Nat) (nv : Nat) (rounds : Int32) (ub : Bool) (nb : Nat) (vrooms : Nat → Int32) (vis : Nat → Int32) (nf : Nat) (rooms : Nat → Int32) (tanks : Nat → Int32) (cows : Nat → Int32) (bst : Nat → Nat → Int32) (n : Nat) (farm : Nat → Int32) (amount : Nat → Int32) (mark : Nat → Int32) (place : Nat → Int32) (number : Nat → Int32) (paid : Nat → Int32) (blamed : Nat → Int32) (j : Nat) (hlt : l.stackTraces = false) (hj : j < nf) (hnf : nf ≤ 6) (hu : ub = false) : mX l yX2_visit cX2_visit 3 (some .int) 7 121 1 6 D (kTy k) [.ref (a 0), .int (nI j)] (wMR k a rr (nI dy) (nI nv) rounds (kB ub) (nI nb) vrooms vis (nI nf) rooms tanks cows bst (nI n) farm amount mark place number paid blamed) (.inr "java/lang/IllegalStateException") := by
  refine mX.of (lv' := [(0, .ref (a 0)), (1, .int (nI j))]) (by decide) (Nat.le_of_ble_eq_true rfl) rfl ?_
  intro p e s m args below meth c E hr hlk hex hZ hA
  refine k_aload_n E 0 rfl rfl dX2_visit_0 ?_
  refine k_iload_n E 1 rfl rfl dX2_visit_1 ?_
  refine k_callRV [.int (nI j)] E (m_X2_requireFarm l D k a rr dy nv rounds ub nb vrooms vis nf rooms tanks cows bst n farm amount mark place number paid blamed j (by first | assumption | omega) (by first | assumption | omega)) cf_X2_requireFarm q_276 [0, 1, 2, 3, 4, 5, 6, 7, 8, 9, 10, 11, 12, 13, 14, 15, 16, 17, 18, 19, 20, 21] rfl 0 rfl rfl rfl rfl ⟨by decide, by decide⟩ (Nat.le_of_ble_eq_true rfl) ⟨by decide, by decide⟩ dX2_visit_2 ?_
  refine k_steq (st' := []) rfl ?_
  refine k_aload_n E 0 rfl rfl dX2_visit_5 ?_
  refine k_get E inX2 0 rfl rfl 5 (by decide) q_97 rfl rfl dX2_visit_6 ?_
  refine k_if_ne E (tgt := 22) (by decide) dX2_visit_9 (fun c9 => absurd (kB_t c9) (by rw [hu]; decide)) (fun c9 => ?_)
  have c9 := kB_f c9
  exact k_throw (cls := "java/lang/IllegalStateException") (text := "no round is under way") (names := ["java/lang/RuntimeException", "java/lang/Exception"]) (ic := 62) E hlt hlk hex hZ rfl rfl rfl (by decide +kernel) (by decide +kernel) q_225 q_9 (by decide +kernel) gx_IllegalStateException bx_IllegalStateException ox_IllegalStateException dX2_visit_12 dX2_visit_15 dX2_visit_16 dX2_visit_18 dX2_visit_21 (by decide) (Nat.le_of_ble_eq_true rfl) (by decide) (by decide) (by decide) (by decide)
set_option maxRecDepth 100000 in
set_option maxHeartbeats 4000000 in
theorem m_X2_visit_s2 (l : Launch) (D : va_G) (k : Nat → ClassId) (a : Nat → Nat) (rr : Nat → Nat) (dy : Nat) (nv : Nat) (rounds : Int32) (ub : Bool) (nb : Nat) (vrooms : Nat → Int32) (vis : Nat → Int32) (nf : Nat) (rooms : Nat → Int32) (tanks : Nat → Int32) (cows : Nat → Int32) (bst : Nat → Nat → Int32) (n : Nat) (farm : Nat → Int32) (amount : Nat → Int32) (mark : Nat → Int32) (place : Nat → Int32) (number : Nat → Int32) (paid : Nat → Int32) (blamed : Nat → Int32) (j : Nat) (hlt : l.stackTraces = false) (hj : j < nf) (hnf : nf ≤ 6) (hu : ub = true) (hv : ¬ vis j = 0) : mX l yX2_visit cX2_visit 3 (some .int) 7 121 1 6 D (kTy k) [.ref (a 0), .int (nI j)] (wMR k a rr (nI dy) (nI nv) rounds (kB ub) (nI nb) vrooms vis (nI nf) rooms tanks cows bst (nI n) farm amount mark place number paid blamed) (.inr "java/lang/IllegalStateException") := by
  refine mX.of (lv' := [(0, .ref (a 0)), (1, .int (nI j))]) (by decide) (Nat.le_of_ble_eq_true rfl) rfl ?_
  intro p e s m args below meth c E hr hlk hex hZ hA
  refine k_aload_n E 0 rfl rfl dX2_visit_0 ?_
  refine k_iload_n E 1 rfl rfl dX2_visit_1 ?_
  refine k_callRV [.int (nI j)] E (m_X2_requireFarm l D k a rr dy nv rounds ub nb vrooms vis nf rooms tanks cows bst n farm amount mark place number paid blamed j (by first | assumption | omega) (by first | assumption | omega)) cf_X2_requireFarm q_276 [0, 1, 2, 3, 4, 5, 6, 7, 8, 9, 10, 11, 12, 13, 14, 15, 16, 17, 18, 19, 20, 21] rfl 0 rfl rfl rfl rfl ⟨by decide, by decide⟩ (Nat.le_of_ble_eq_true rfl) ⟨by decide, by decide⟩ dX2_visit_2 ?_
  refine k_steq (st' := []) rfl ?_
  refine k_aload_n E 0 rfl rfl dX2_visit_5 ?_
  refine k_get E inX2 0 rfl rfl 5 (by decide) q_97 rfl rfl dX2_visit_6 ?_
  refine k_if_ne E (tgt := 22) (by decide) dX2_visit_9 (fun c9 => ?_) (fun c9 => absurd (kB_f c9) (by rw [hu]; decide))
  have c9 := kB_t c9
  refine k_aload_n E 0 rfl rfl dX2_visit_22 ?_
  refine k_get E inX2 0 rfl rfl 6 (by decide) q_98 rfl rfl dX2_visit_23 ?_
  refine k_iload_n E 1 rfl rfl dX2_visit_26 ?_
  refine k_zald E (j := j) 13 2 rfl rfl rfl (by omega) (by decide) dX2_visit_27 ?_
  refine k_if_eq E (tgt := 41) (by decide) dX2_visit_28 (fun c28 => absurd c28 hv) (fun c28 => ?_)
  exact k_throw (cls := "java/lang/IllegalStateException") (text := "the round visited this farm") (names := ["java/lang/RuntimeException", "java/lang/Exception"]) (ic := 62) E hlt hlk hex hZ rfl rfl rfl (by decide +kernel) (by decide +kernel) q_225 q_9 (by decide +kernel) gx_IllegalStateException bx_IllegalStateException ox_IllegalStateException dX2_visit_31 dX2_visit_34 dX2_visit_35 dX2_visit_37 dX2_visit_40 (by decide) (Nat.le_of_ble_eq_true rfl) (by decide) (by decide) (by decide) (by decide)
set_option maxRecDepth 100000 in
set_option maxHeartbeats 4000000 in
theorem m_X2_visit_s3 (l : Launch) (D : va_G) (k : Nat → ClassId) (a : Nat → Nat) (rr : Nat → Nat) (dy : Nat) (nv : Nat) (rounds : Int32) (ub : Bool) (nb : Nat) (vrooms : Nat → Int32) (vis : Nat → Int32) (nf : Nat) (rooms : Nat → Int32) (tanks : Nat → Int32) (cows : Nat → Int32) (bst : Nat → Nat → Int32) (n : Nat) (farm : Nat → Int32) (amount : Nat → Int32) (mark : Nat → Int32) (place : Nat → Int32) (number : Nat → Int32) (paid : Nat → Int32) (blamed : Nat → Int32) (j : Nat) (hlt : l.stackTraces = false) (hj : j < nf) (hnf : nf ≤ 6) (hu : ub = true) (hv : vis j = 0) (hn : n = 100) : mX l yX2_visit cX2_visit 3 (some .int) 7 121 1 6 D (kTy k) [.ref (a 0), .int (nI j)] (wMR k a rr (nI dy) (nI nv) rounds (kB ub) (nI nb) vrooms vis (nI nf) rooms tanks cows bst (nI n) farm amount mark place number paid blamed) (.inr "java/lang/IllegalStateException") := by
  refine mX.of (lv' := [(0, .ref (a 0)), (1, .int (nI j))]) (by decide) (Nat.le_of_ble_eq_true rfl) rfl ?_
  intro p e s m args below meth c E hr hlk hex hZ hA
  refine k_aload_n E 0 rfl rfl dX2_visit_0 ?_
  refine k_iload_n E 1 rfl rfl dX2_visit_1 ?_
  refine k_callRV [.int (nI j)] E (m_X2_requireFarm l D k a rr dy nv rounds ub nb vrooms vis nf rooms tanks cows bst n farm amount mark place number paid blamed j (by first | assumption | omega) (by first | assumption | omega)) cf_X2_requireFarm q_276 [0, 1, 2, 3, 4, 5, 6, 7, 8, 9, 10, 11, 12, 13, 14, 15, 16, 17, 18, 19, 20, 21] rfl 0 rfl rfl rfl rfl ⟨by decide, by decide⟩ (Nat.le_of_ble_eq_true rfl) ⟨by decide, by decide⟩ dX2_visit_2 ?_
  refine k_steq (st' := []) rfl ?_
  refine k_aload_n E 0 rfl rfl dX2_visit_5 ?_
  refine k_get E inX2 0 rfl rfl 5 (by decide) q_97 rfl rfl dX2_visit_6 ?_
  refine k_if_ne E (tgt := 22) (by decide) dX2_visit_9 (fun c9 => ?_) (fun c9 => absurd (kB_f c9) (by rw [hu]; decide))
  have c9 := kB_t c9
  refine k_aload_n E 0 rfl rfl dX2_visit_22 ?_
  refine k_get E inX2 0 rfl rfl 6 (by decide) q_98 rfl rfl dX2_visit_23 ?_
  refine k_iload_n E 1 rfl rfl dX2_visit_26 ?_
  refine k_zald E (j := j) 13 2 rfl rfl rfl (by omega) (by decide) dX2_visit_27 ?_
  refine k_if_eq E (tgt := 41) (by decide) dX2_visit_28 (fun c28 => ?_) (fun c28 => absurd c28 (not_not_intro hv))
  refine k_aload_n E 0 rfl rfl dX2_visit_41 ?_
  refine k_get E inX2 0 rfl rfl 7 (by decide) q_99 rfl rfl dX2_visit_42 ?_
  refine k_getN E inX1 14 rfl rfl 0 (by decide) rfl (by decide +kernel) rfl rfl dX2_visit_45 ?_
  refine k_bipush E (v := 100) (by decide) dX2_visit_48 ?_
  refine k_icmp_lt E (tgt := 63) (by decide) dX2_visit_50 (fun c50 => absurd ((nI_ltI (a := n) (b := 100) (by omega) (by omega)).mp c50) (by omega)) (fun c50 => ?_)
  have c50 := (not_congr (nI_ltI (a := n) (b := 100) (by omega) (by omega))).mp c50
  exact k_throw (cls := "java/lang/IllegalStateException") (text := "100 samples were taken") (names := ["java/lang/RuntimeException", "java/lang/Exception"]) (ic := 62) E hlt hlk hex hZ rfl rfl rfl (by decide +kernel) (by decide +kernel) q_225 q_9 (by decide +kernel) gx_IllegalStateException bx_IllegalStateException ox_IllegalStateException dX2_visit_53 dX2_visit_56 dX2_visit_57 dX2_visit_59 dX2_visit_62 (by decide) (Nat.le_of_ble_eq_true rfl) (by decide) (by decide) (by decide) (by decide)
set_option maxRecDepth 100000 in
set_option maxHeartbeats 4000000 in
theorem m_X2_endRound (l : Launch) (D : va_G) (k : Nat → ClassId) (a : Nat → Nat) (rr : Nat → Nat) (dy : Nat) (nv : Nat) (rounds : Int32) (ub : Bool) (nb : Nat) (vrooms : Nat → Int32) (vis : Nat → Int32) (nf : Nat) (rooms : Nat → Int32) (tanks : Nat → Int32) (cows : Nat → Int32) (bst : Nat → Nat → Int32) (n : Nat) (farm : Nat → Int32) (amount : Nat → Int32) (mark : Nat → Int32) (place : Nat → Int32) (number : Nat → Int32) (paid : Nat → Int32) (blamed : Nat → Int32) (j : Nat) (hj : j < nv) (hnv : nv ≤ 4) (hn : n ≤ 100) (hu : ub = true) (hr0 : inTk place number amount n ≤ vrooms j - inVt place number amount (nI j) n) (hs0 : sI (cIn place number 116 0) (fun _ => 1) n + sI (cIn place number 118 (nI j)) (fun _ => 1) n ≤ 60) : mW l yX2_endRound cX2_endRound 2 (some .int) 9 163 0 0 D (kTy k) [.ref (a 0), .int (nI j)] (wMR k a rr (nI dy) (nI nv) rounds (kB ub) (nI nb) vrooms vis (nI nf) rooms tanks cows bst (nI n) farm amount mark place number paid blamed) (some (.int (inVt (wr (cIn place number 116 0) (fun _ => 118) place n) (wr (cIn place number 116 0) (fun _ => nI j) number n) amount (nI j) n))) (wMR k a rr (nI dy) (nI nv) rounds (kB false) (nI nb) vrooms vis (nI nf) rooms tanks cows bst (nI n) farm amount mark (wr (cIn place number 116 0) (fun _ => 118) place n) (wr (cIn place number 116 0) (fun _ => nI j) number n) paid blamed) := by
  refine mW.of (lv' := [(0, .ref (a 0)), (1, .int (nI j))]) (by decide) (Nat.le_of_ble_eq_true rfl) rfl ?_
  intro p e s m args below meth c E hr hlk hm hA
  refine k_aload_n E 0 rfl rfl dX2_endRound_0 ?_
  refine k_iload_n E 1 rfl rfl dX2_endRound_1 ?_
  refine k_callRV [.int (nI j)] E (m_X2_requireVat l D k a rr dy nv rounds ub nb vrooms vis nf rooms tanks cows bst n farm amount mark place number paid blamed j (by first | assumption | omega) (by first | assumption | omega)) cf_X2_requireVat q_387 [0, 1, 2, 3, 4, 5, 6, 7, 8, 9, 10, 11, 12, 13, 14, 15, 16, 17, 18, 19, 20, 21] rfl 0 rfl rfl rfl rfl ⟨by decide, by decide⟩ (Nat.le_of_ble_eq_true rfl) ⟨by decide, by decide⟩ dX2_endRound_2 ?_
  refine k_steq (st' := []) rfl ?_
  refine k_aload_n E 0 rfl rfl dX2_endRound_5 ?_
  refine k_get E inX2 0 rfl rfl 5 (by decide) q_97 rfl rfl dX2_endRound_6 ?_
  refine k_if_ne E (tgt := 22) (by decide) dX2_endRound_9 (fun c9 => ?_) (fun c9 => absurd (kB_f c9) (by rw [hu]; decide))
  have c9 := kB_t c9
  refine k_aload_n E 0 rfl rfl dX2_endRound_22 ?_
  refine k_callRV [] E (m_X2_inTanker l D k a rr dy nv rounds ub nb vrooms vis nf rooms tanks cows bst n farm amount mark place number paid blamed (by first | assumption | omega)) cf_X2_inTanker q_370 [0, 1, 2, 3, 4, 5, 6, 7, 8, 9, 10, 11, 12, 13, 14, 15, 16, 17, 18, 19, 20, 21] rfl 0 rfl rfl rfl rfl ⟨by decide, by decide⟩ (Nat.le_of_ble_eq_true rfl) ⟨by decide, by decide⟩ dX2_endRound_23 ?_
  refine k_steq (st' := [.int (inTk place number amount n)]) rfl ?_
  refine k_aload_n E 0 rfl rfl dX2_endRound_26 ?_
  refine k_iload_n E 1 rfl rfl dX2_endRound_27 ?_
  refine k_callRV [.int (nI j)] E (m_X2_freeRoom l D k a rr dy nv rounds ub nb vrooms vis nf rooms tanks cows bst n farm amount mark place number paid blamed j (by first | assumption | omega) (by first | assumption | omega) (by first | assumption | omega)) cf_X2_freeRoom q_392 [0, 1, 2, 3, 4, 5, 6, 7, 8, 9, 10, 11, 12, 13, 14, 15, 16, 17, 18, 19, 20, 21] rfl 0 rfl rfl rfl rfl ⟨by decide, by decide⟩ (Nat.le_of_ble_eq_true rfl) ⟨by decide, by decide⟩ dX2_endRound_28 ?_
  refine k_steq (st' := [.int (vrooms j - inVt place number amount (nI j) n), .int (inTk place number amount n)]) rfl ?_
  refine k_icmp_le E (tgt := 44) (by decide) dX2_endRound_31 (fun c31 => ?_) (fun c31 => absurd c31 (not_not_intro hr0))
  refine k_aload_n E 0 rfl rfl dX2_endRound_44 ?_
  refine k_get E inX2 0 rfl rfl 7 (by decide) q_99 rfl rfl dX2_endRound_45 ?_
  refine k_bipush E (v := 116) (by decide) dX2_endRound_48 ?_
  refine k_iconst E (v := 0) (by decide) dX2_endRound_50 ?_
  refine k_callRVN [.int 116, .int 0] E (m_X1_countIn l D k (a 8) (a 9) (a 10) (a 11) (a 12) (a 13) (a 14) (a 15) n farm amount mark place number paid blamed 116 0 (by first | assumption | omega)) cf_X1_countIn rfl (by decide +kernel) [14, 15, 16, 17, 18, 19, 20, 21] rfl 14 rfl rfl rfl rfl ⟨by decide, by decide⟩ (Nat.le_of_ble_eq_true rfl) ⟨by decide, by decide⟩ dX2_endRound_51 ?_
  refine k_steq (st' := [.int (sI (cIn place number 116 0) (fun _ => 1) n)]) rfl ?_
  refine k_aload_n E 0 rfl rfl dX2_endRound_54 ?_
  refine k_get E inX2 0 rfl rfl 7 (by decide) q_99 rfl rfl dX2_endRound_55 ?_
  refine k_bipush E (v := 118) (by decide) dX2_endRound_58 ?_
  refine k_iload_n E 1 rfl rfl dX2_endRound_60 ?_
  refine k_callRVN [.int 118, .int (nI j)] E (m_X1_countIn l D k (a 8) (a 9) (a 10) (a 11) (a 12) (a 13) (a 14) (a 15) n farm amount mark place number paid blamed 118 (nI j) (by first | assumption | omega)) cf_X1_countIn rfl (by decide +kernel) [14, 15, 16, 17, 18, 19, 20, 21] rfl 14 rfl rfl rfl rfl ⟨by decide, by decide⟩ (Nat.le_of_ble_eq_true rfl) ⟨by decide, by decide⟩ dX2_endRound_61 ?_
  refine k_steq (st' := [.int (sI (cIn place number 118 (nI j)) (fun _ => 1) n), .int (sI (cIn place number 116 0) (fun _ => 1) n)]) rfl ?_
  refine k_iadd E dX2_endRound_64 ?_
  refine k_bipush E (v := 60) (by decide) dX2_endRound_65 ?_
  refine k_icmp_le E (tgt := 80) (by decide) dX2_endRound_67 (fun c67 => ?_) (fun c67 => absurd c67 (not_not_intro hs0))
  refine k_aload_n E 0 rfl rfl dX2_endRound_80 ?_
  refine k_get E inX2 0 rfl rfl 7 (by decide) q_99 rfl rfl dX2_endRound_81 ?_
  refine k_bipush E (v := 116) (by decide) dX2_endRound_84 ?_
  refine k_iconst E (v := 0) (by decide) dX2_endRound_86 ?_
  refine k_bipush E (v := 118) (by decide) dX2_endRound_87 ?_
  refine k_iload_n E 1 rfl rfl dX2_endRound_89 ?_
  refine k_callWVN [.int 116, .int 0, .int 118, .int (nI j)] E hA (m_X1_move l D k (a 8) (a 9) (a 10) (a 11) (a 12) (a 13) (a 14) (a 15) n farm amount mark place number paid blamed 116 0 118 (nI j) (by first | assumption | omega) (by decide)) cf_X1_move rfl (by decide +kernel) (xMR k a rr (nI dy) (nI nv) rounds (kB ub) (nI nb) vrooms vis (nI nf) rooms tanks cows bst) [] (ws' := (wMR k a rr (nI dy) (nI nv) rounds (kB ub) (nI nb) vrooms vis (nI nf) rooms tanks cows bst (nI n) farm amount mark (wr (cIn place number 116 0) (fun _ => 118) place n) (wr (cIn place number 116 0) (fun _ => (nI j)) number n) paid blamed)) rfl rfl 14 rfl rfl rfl rfl ⟨by decide, by decide⟩ (Nat.le_of_ble_eq_true rfl) ⟨by decide, by decide⟩ dX2_endRound_90 ?_
  refine k_steq (st' := []) rfl ?_
  refine k_aload_n E 0 rfl rfl dX2_endRound_93 ?_
  refine k_iconst E (v := 0) (by decide) dX2_endRound_94 ?_
  refine k_put (ws' := (wMR k a rr (nI dy) (nI nv) rounds 0 (nI nb) vrooms vis (nI nf) rooms tanks cows bst (nI n) farm amount mark (wr (cIn place number 116 0) (fun _ => 118) place n) (wr (cIn place number 116 0) (fun _ => (nI j)) number n) paid blamed)) E inX2 tyX2 tyX2_ok nmX2 0 rfl rfl 5 (by decide) q_97 rfl rfl rfl rfl (Nat.le_of_ble_eq_true rfl) rfl dX2_endRound_95 ?_
  refine k_aload_n E 0 rfl rfl dX2_endRound_98 ?_
  refine k_iload_n E 1 rfl rfl dX2_endRound_99 ?_
  refine k_callRV [.int (nI j)] E (m_X2_inVat l D k a rr dy nv rounds false nb vrooms vis nf rooms tanks cows bst n farm amount mark (wr (cIn place number 116 0) (fun _ => 118) place n) (wr (cIn place number 116 0) (fun _ => (nI j)) number n) paid blamed j (by first | assumption | omega) (by first | assumption | omega) (by first | assumption | omega)) cf_X2_inVat q_396 [0, 1, 2, 3, 4, 5, 6, 7, 8, 9, 10, 11, 12, 13, 14, 15, 16, 17, 18, 19, 20, 21] rfl 0 rfl rfl rfl rfl ⟨by decide, by decide⟩ (Nat.le_of_ble_eq_true rfl) ⟨by decide, by decide⟩ dX2_endRound_100 ?_
  refine k_steq (st' := [.int (inVt (wr (cIn place number 116 0) (fun _ => 118) place n) (wr (cIn place number 116 0) (fun _ => (nI j)) number n) amount (nI j) n)]) rfl ?_
  exact kw_iret E hr hlk rfl rfl (by decide) (by decide) dX2_endRound_103
set_option maxRecDepth 100000 in
set_option maxHeartbeats 4000000 in
theorem m_X2_endRound_i (l : Launch) (D : va_G) (k : Nat → ClassId) (a : Nat → Nat) (rr : Nat → Nat) (dy : Nat) (nv : Nat) (rounds : Int32) (ub : Bool) (nb : Nat) (vrooms : Nat → Int32) (vis : Nat → Int32) (nf : Nat) (rooms : Nat → Int32) (tanks : Nat → Int32) (cows : Nat → Int32) (bst : Nat → Nat → Int32) (n : Nat) (farm : Nat → Int32) (amount : Nat → Int32) (mark : Nat → Int32) (place : Nat → Int32) (number : Nat → Int32) (paid : Nat → Int32) (blamed : Nat → Int32) (fa : Int32) (hlt : l.stackTraces = false) (hb : fa < 0 ∨ nI nv ≤ fa) : mX l yX2_endRound cX2_endRound 2 (some .int) 9 163 1 6 D (kTy k) [.ref (a 0), .int fa] (wMR k a rr (nI dy) (nI nv) rounds (kB ub) (nI nb) vrooms vis (nI nf) rooms tanks cows bst (nI n) farm amount mark place number paid blamed) (.inr "java/lang/IndexOutOfBoundsException") := by
  refine mX.of (lv' := [(0, .ref (a 0)), (1, .int fa)]) (by decide) (Nat.le_of_ble_eq_true rfl) rfl ?_
  intro p e s m args below meth c E hr hlk hex hZ hA
  refine k_aload_n E 0 rfl rfl dX2_endRound_0 ?_
  refine k_iload_n E 1 rfl rfl dX2_endRound_1 ?_
  refine k_callXV [.int fa] E hA hZ (m_X2_requireVat_b l D k a rr dy nv rounds ub nb vrooms vis nf rooms tanks cows bst n farm amount mark place number paid blamed fa hlt (by first | assumption | omega)) cf_X2_requireVat q_387 [] [] rfl 0 rfl rfl rfl rfl ⟨by decide, by decide⟩ (Nat.le_of_ble_eq_true rfl) ⟨by decide, by decide⟩ dX2_endRound_2 (fun v1 W1 ho => by cases ho) (fun X1 ho => ?_)
  cases ho
  exact k_xout hlk hex rfl rfl (by decide) (by decide)
set_option maxRecDepth 100000 in
set_option maxHeartbeats 4000000 in
theorem m_X2_endRound_s (l : Launch) (D : va_G) (k : Nat → ClassId) (a : Nat → Nat) (rr : Nat → Nat) (dy : Nat) (nv : Nat) (rounds : Int32) (ub : Bool) (nb : Nat) (vrooms : Nat → Int32) (vis : Nat → Int32) (nf : Nat) (rooms : Nat → Int32) (tanks : Nat → Int32) (cows : Nat → Int32) (bst : Nat → Nat → Int32) (n : Nat) (farm : Nat → Int32) (amount : Nat → Int32) (mark : Nat → Int32) (place : Nat → Int32) (number : Nat → Int32) (paid : Nat → Int32) (blamed : Nat → Int32) (j : Nat) (hlt : l.stackTraces = false) (hj : j < nv) (hnv : nv ≤ 4) (hn : n ≤ 100) (hu : ub = false) : mX l yX2_endRound cX2_endRound 2 (some .int) 9 163 1 6 D (kTy k) [.ref (a 0), .int (nI j)] (wMR k a rr (nI dy) (nI nv) rounds (kB ub) (nI nb) vrooms vis (nI nf) rooms tanks cows bst (nI n) farm amount mark place number paid blamed) (.inr "java/lang/IllegalStateException") := by
  refine mX.of (lv' := [(0, .ref (a 0)), (1, .int (nI j))]) (by decide) (Nat.le_of_ble_eq_true rfl) rfl ?_
  intro p e s m args below meth c E hr hlk hex hZ hA
  refine k_aload_n E 0 rfl rfl dX2_endRound_0 ?_
  refine k_iload_n E 1 rfl rfl dX2_endRound_1 ?_
  refine k_callRV [.int (nI j)] E (m_X2_requireVat l D k a rr dy nv rounds ub nb vrooms vis nf rooms tanks cows bst n farm amount mark place number paid blamed j (by first | assumption | omega) (by first | assumption | omega)) cf_X2_requireVat q_387 [0, 1, 2, 3, 4, 5, 6, 7, 8, 9, 10, 11, 12, 13, 14, 15, 16, 17, 18, 19, 20, 21] rfl 0 rfl rfl rfl rfl ⟨by decide, by decide⟩ (Nat.le_of_ble_eq_true rfl) ⟨by decide, by decide⟩ dX2_endRound_2 ?_
  refine k_steq (st' := []) rfl ?_
  refine k_aload_n E 0 rfl rfl dX2_endRound_5 ?_
  refine k_get E inX2 0 rfl rfl 5 (by decide) q_97 rfl rfl dX2_endRound_6 ?_
  refine k_if_ne E (tgt := 22) (by decide) dX2_endRound_9 (fun c9 => absurd (kB_t c9) (by rw [hu]; decide)) (fun c9 => ?_)
  have c9 := kB_f c9
  exact k_throw (cls := "java/lang/IllegalStateException") (text := "no round is under way") (names := ["java/lang/RuntimeException", "java/lang/Exception"]) (ic := 62) E hlt hlk hex hZ rfl rfl rfl (by decide +kernel) (by decide +kernel) q_225 q_9 (by decide +kernel) gx_IllegalStateException bx_IllegalStateException ox_IllegalStateException dX2_endRound_12 dX2_endRound_15 dX2_endRound_16 dX2_endRound_18 dX2_endRound_21 (by decide) (Nat.le_of_ble_eq_true rfl) (by decide) (by decide) (by decide) (by decide)
set_option maxRecDepth 100000 in
set_option maxHeartbeats 4000000 in
theorem m_X2_endRound_u1 (l : Launch) (D : va_G) (k : Nat → ClassId) (a : Nat → Nat) (rr : Nat → Nat) (dy : Nat) (nv : Nat) (rounds : Int32) (ub : Bool) (nb : Nat) (vrooms : Nat → Int32) (vis : Nat → Int32) (nf : Nat) (rooms : Nat → Int32) (tanks : Nat → Int32) (cows : Nat → Int32) (bst : Nat → Nat → Int32) (n : Nat) (farm : Nat → Int32) (amount : Nat → Int32) (mark : Nat → Int32) (place : Nat → Int32) (number : Nat → Int32) (paid : Nat → Int32) (blamed : Nat → Int32) (j : Nat) (hlt : l.stackTraces = false) (hj : j < nv) (hnv : nv ≤ 4) (hn : n ≤ 100) (hu : ub = true) (hr0 : ¬ inTk place number amount n ≤ vrooms j - inVt place number amount (nI j) n) : mX l yX2_endRound cX2_endRound 2 (some .int) 9 163 1 6 D (kTy k) [.ref (a 0), .int (nI j)] (wMR k a rr (nI dy) (nI nv) rounds (kB ub) (nI nb) vrooms vis (nI nf) rooms tanks cows bst (nI n) farm amount mark place number paid blamed) (.inr "java/lang/UnsupportedOperationException") := by
  refine mX.of (lv' := [(0, .ref (a 0)), (1, .int (nI j))]) (by decide) (Nat.le_of_ble_eq_true rfl) rfl ?_
  intro p e s m args below meth c E hr hlk hex hZ hA
  refine k_aload_n E 0 rfl rfl dX2_endRound_0 ?_
  refine k_iload_n E 1 rfl rfl dX2_endRound_1 ?_
  refine k_callRV [.int (nI j)] E (m_X2_requireVat l D k a rr dy nv rounds ub nb vrooms vis nf rooms tanks cows bst n farm amount mark place number paid blamed j (by first | assumption | omega) (by first | assumption | omega)) cf_X2_requireVat q_387 [0, 1, 2, 3, 4, 5, 6, 7, 8, 9, 10, 11, 12, 13, 14, 15, 16, 17, 18, 19, 20, 21] rfl 0 rfl rfl rfl rfl ⟨by decide, by decide⟩ (Nat.le_of_ble_eq_true rfl) ⟨by decide, by decide⟩ dX2_endRound_2 ?_
  refine k_steq (st' := []) rfl ?_
  refine k_aload_n E 0 rfl rfl dX2_endRound_5 ?_
  refine k_get E inX2 0 rfl rfl 5 (by decide) q_97 rfl rfl dX2_endRound_6 ?_
  refine k_if_ne E (tgt := 22) (by decide) dX2_endRound_9 (fun c9 => ?_) (fun c9 => absurd (kB_f c9) (by rw [hu]; decide))
  have c9 := kB_t c9
  refine k_aload_n E 0 rfl rfl dX2_endRound_22 ?_
  refine k_callRV [] E (m_X2_inTanker l D k a rr dy nv rounds ub nb vrooms vis nf rooms tanks cows bst n farm amount mark place number paid blamed (by first | assumption | omega)) cf_X2_inTanker q_370 [0, 1, 2, 3, 4, 5, 6, 7, 8, 9, 10, 11, 12, 13, 14, 15, 16, 17, 18, 19, 20, 21] rfl 0 rfl rfl rfl rfl ⟨by decide, by decide⟩ (Nat.le_of_ble_eq_true rfl) ⟨by decide, by decide⟩ dX2_endRound_23 ?_
  refine k_steq (st' := [.int (inTk place number amount n)]) rfl ?_
  refine k_aload_n E 0 rfl rfl dX2_endRound_26 ?_
  refine k_iload_n E 1 rfl rfl dX2_endRound_27 ?_
  refine k_callRV [.int (nI j)] E (m_X2_freeRoom l D k a rr dy nv rounds ub nb vrooms vis nf rooms tanks cows bst n farm amount mark place number paid blamed j (by first | assumption | omega) (by first | assumption | omega) (by first | assumption | omega)) cf_X2_freeRoom q_392 [0, 1, 2, 3, 4, 5, 6, 7, 8, 9, 10, 11, 12, 13, 14, 15, 16, 17, 18, 19, 20, 21] rfl 0 rfl rfl rfl rfl ⟨by decide, by decide⟩ (Nat.le_of_ble_eq_true rfl) ⟨by decide, by decide⟩ dX2_endRound_28 ?_
  refine k_steq (st' := [.int (vrooms j - inVt place number amount (nI j) n), .int (inTk place number amount n)]) rfl ?_
  refine k_icmp_le E (tgt := 44) (by decide) dX2_endRound_31 (fun c31 => absurd c31 hr0) (fun c31 => ?_)
  exact k_throw (cls := "java/lang/UnsupportedOperationException") (text := "the vat has no room for all of it") (names := ["java/lang/RuntimeException", "java/lang/Exception"]) (ic := 128) E hlt hlk hex hZ rfl rfl rfl (by decide +kernel) (by decide +kernel) q_400 q_14 (by decide +kernel) gx_UnsupportedOperationException bx_UnsupportedOperationException ox_UnsupportedOperationException dX2_endRound_34 dX2_endRound_37 dX2_endRound_38 dX2_endRound_40 dX2_endRound_43 (by decide) (Nat.le_of_ble_eq_true rfl) (by decide) (by decide) (by decide) (by decide)
set_option maxRecDepth 100000 in
set_option maxHeartbeats 4000000 in
theorem m_X2_endRound_u2 (l : Launch) (D : va_G) (k : Nat → ClassId) (a : Nat → Nat) (rr : Nat → Nat) (dy : Nat) (nv : Nat) (rounds : Int32) (ub : Bool) (nb : Nat) (vrooms : Nat → Int32) (vis : Nat → Int32) (nf : Nat) (rooms : Nat → Int32) (tanks : Nat → Int32) (cows : Nat → Int32) (bst : Nat → Nat → Int32) (n : Nat) (farm : Nat → Int32) (amount : Nat → Int32) (mark : Nat → Int32) (place : Nat → Int32) (number : Nat → Int32) (paid : Nat → Int32) (blamed : Nat → Int32) (j : Nat) (hlt : l.stackTraces = false) (hj : j < nv) (hnv : nv ≤ 4) (hn : n ≤ 100) (hu : ub = true) (hr0 : inTk place number amount n ≤ vrooms j - inVt place number amount (nI j) n) (hs0 : ¬ sI (cIn place number 116 0) (fun _ => 1) n + sI (cIn place number 118 (nI j)) (fun _ => 1) n ≤ 60) : mX l yX2_endRound cX2_endRound 2 (some .int) 9 163 1 6 D (kTy k) [.ref (a 0), .int (nI j)] (wMR k a rr (nI dy) (nI nv) rounds (kB ub) (nI nb) vrooms vis (nI nf) rooms tanks cows bst (nI n) farm amount mark place number paid blamed) (.inr "java/lang/UnsupportedOperationException") := by
  refine mX.of (lv' := [(0, .ref (a 0)), (1, .int (nI j))]) (by decide) (Nat.le_of_ble_eq_true rfl) rfl ?_
  intro p e s m args below meth c E hr hlk hex hZ hA
  refine k_aload_n E 0 rfl rfl dX2_endRound_0 ?_
  refine k_iload_n E 1 rfl rfl dX2_endRound_1 ?_
  refine k_callRV [.int (nI j)] E (m_X2_requireVat l D k a rr dy nv rounds ub nb vrooms vis nf rooms tanks cows bst n farm amount mark place number paid blamed j (by first | assumption | omega) (by first | assumption | omega)) cf_X2_requireVat q_387 [0, 1, 2, 3, 4, 5, 6, 7, 8, 9, 10, 11, 12, 13, 14, 15, 16, 17, 18, 19, 20, 21] rfl 0 rfl rfl rfl rfl ⟨by decide, by decide⟩ (Nat.le_of_ble_eq_true rfl) ⟨by decide, by decide⟩ dX2_endRound_2 ?_
  refine k_steq (st' := []) rfl ?_
  refine k_aload_n E 0 rfl rfl dX2_endRound_5 ?_
  refine k_get E inX2 0 rfl rfl 5 (by decide) q_97 rfl rfl dX2_endRound_6 ?_
  refine k_if_ne E (tgt := 22) (by decide) dX2_endRound_9 (fun c9 => ?_) (fun c9 => absurd (kB_f c9) (by rw [hu]; decide))
  have c9 := kB_t c9
  refine k_aload_n E 0 rfl rfl dX2_endRound_22 ?_
  refine k_callRV [] E (m_X2_inTanker l D k a rr dy nv rounds ub nb vrooms vis nf rooms tanks cows bst n farm amount mark place number paid blamed (by first | assumption | omega)) cf_X2_inTanker q_370 [0, 1, 2, 3, 4, 5, 6, 7, 8, 9, 10, 11, 12, 13, 14, 15, 16, 17, 18, 19, 20, 21] rfl 0 rfl rfl rfl rfl ⟨by decide, by decide⟩ (Nat.le_of_ble_eq_true rfl) ⟨by decide, by decide⟩ dX2_endRound_23 ?_
  refine k_steq (st' := [.int (inTk place number amount n)]) rfl ?_
  refine k_aload_n E 0 rfl rfl dX2_endRound_26 ?_
  refine k_iload_n E 1 rfl rfl dX2_endRound_27 ?_
  refine k_callRV [.int (nI j)] E (m_X2_freeRoom l D k a rr dy nv rounds ub nb vrooms vis nf rooms tanks cows bst n farm amount mark place number paid blamed j (by first | assumption | omega) (by first | assumption | omega) (by first | assumption | omega)) cf_X2_freeRoom q_392 [0, 1, 2, 3, 4, 5, 6, 7, 8, 9, 10, 11, 12, 13, 14, 15, 16, 17, 18, 19, 20, 21] rfl 0 rfl rfl rfl rfl ⟨by decide, by decide⟩ (Nat.le_of_ble_eq_true rfl) ⟨by decide, by decide⟩ dX2_endRound_28 ?_
  refine k_steq (st' := [.int (vrooms j - inVt place number amount (nI j) n), .int (inTk place number amount n)]) rfl ?_
  refine k_icmp_le E (tgt := 44) (by decide) dX2_endRound_31 (fun c31 => ?_) (fun c31 => absurd c31 (not_not_intro hr0))
  refine k_aload_n E 0 rfl rfl dX2_endRound_44 ?_
  refine k_get E inX2 0 rfl rfl 7 (by decide) q_99 rfl rfl dX2_endRound_45 ?_
  refine k_bipush E (v := 116) (by decide) dX2_endRound_48 ?_
  refine k_iconst E (v := 0) (by decide) dX2_endRound_50 ?_
  refine k_callRVN [.int 116, .int 0] E (m_X1_countIn l D k (a 8) (a 9) (a 10) (a 11) (a 12) (a 13) (a 14) (a 15) n farm amount mark place number paid blamed 116 0 (by first | assumption | omega)) cf_X1_countIn rfl (by decide +kernel) [14, 15, 16, 17, 18, 19, 20, 21] rfl 14 rfl rfl rfl rfl ⟨by decide, by decide⟩ (Nat.le_of_ble_eq_true rfl) ⟨by decide, by decide⟩ dX2_endRound_51 ?_
  refine k_steq (st' := [.int (sI (cIn place number 116 0) (fun _ => 1) n)]) rfl ?_
  refine k_aload_n E 0 rfl rfl dX2_endRound_54 ?_
  refine k_get E inX2 0 rfl rfl 7 (by decide) q_99 rfl rfl dX2_endRound_55 ?_
  refine k_bipush E (v := 118) (by decide) dX2_endRound_58 ?_
  refine k_iload_n E 1 rfl rfl dX2_endRound_60 ?_
  refine k_callRVN [.int 118, .int (nI j)] E (m_X1_countIn l D k (a 8) (a 9) (a 10) (a 11) (a 12) (a 13) (a 14) (a 15) n farm amount mark place number paid blamed 118 (nI j) (by first | assumption | omega)) cf_X1_countIn rfl (by decide +kernel) [14, 15, 16, 17, 18, 19, 20, 21] rfl 14 rfl rfl rfl rfl ⟨by decide, by decide⟩ (Nat.le_of_ble_eq_true rfl) ⟨by decide, by decide⟩ dX2_endRound_61 ?_
  refine k_steq (st' := [.int (sI (cIn place number 118 (nI j)) (fun _ => 1) n), .int (sI (cIn place number 116 0) (fun _ => 1) n)]) rfl ?_
  refine k_iadd E dX2_endRound_64 ?_
  refine k_bipush E (v := 60) (by decide) dX2_endRound_65 ?_
  refine k_icmp_le E (tgt := 80) (by decide) dX2_endRound_67 (fun c67 => absurd c67 hs0) (fun c67 => ?_)
  exact k_throw (cls := "java/lang/UnsupportedOperationException") (text := "the vat would have more than 60 shares") (names := ["java/lang/RuntimeException", "java/lang/Exception"]) (ic := 128) E hlt hlk hex hZ rfl rfl rfl (by decide +kernel) (by decide +kernel) q_400 q_14 (by decide +kernel) gx_UnsupportedOperationException bx_UnsupportedOperationException ox_UnsupportedOperationException dX2_endRound_70 dX2_endRound_73 dX2_endRound_74 dX2_endRound_76 dX2_endRound_79 (by decide) (Nat.le_of_ble_eq_true rfl) (by decide) (by decide) (by decide) (by decide)
set_option maxRecDepth 100000 in
set_option maxHeartbeats 4000000 in
theorem m_X2_bestVat (l : Launch) (D : va_G) (k : Nat → ClassId) (a : Nat → Nat) (rr : Nat → Nat) (dy : Nat) (nv : Nat) (rounds : Int32) (ub : Bool) (nb : Nat) (vrooms : Nat → Int32) (vis : Nat → Int32) (nf : Nat) (rooms : Nat → Int32) (tanks : Nat → Int32) (cows : Nat → Int32) (bst : Nat → Nat → Int32) (n : Nat) (farm : Nat → Int32) (amount : Nat → Int32) (mark : Nat → Int32) (place : Nat → Int32) (number : Nat → Int32) (paid : Nat → Int32) (blamed : Nat → Int32) (hnv : nv ≤ 4) (hn : n ≤ 100) (h0 : 0 ≤ (bvS (fun zv => vrooms zv - inVt place number amount (nI zv) n) (inTk place number amount n) nv).1) : mR l yX2_bestVat cX2_bestVat 6 (some .int) 9 163 D (kTy k) [.ref (a 0)] (wMR k a rr (nI dy) (nI nv) rounds (kB ub) (nI nb) vrooms vis (nI nf) rooms tanks cows bst (nI n) farm amount mark place number paid blamed) (some (.int (bvS (fun zv => vrooms zv - inVt place number amount (nI zv) n) (inTk place number amount n) nv).1)) := by
  refine mR.of (lv' := [(0, .ref (a 0))]) (by decide) (Nat.le_of_ble_eq_true rfl) rfl ?_
  intro p e s m args below meth c E hr hlk
  have L12 : ∀ (dn12 : Nat) (i : Nat) (x : Int32) (y : Int32), i + dn12 = nv → ((x, y) = bvS (fun zv => vrooms zv - inVt place number amount (nI zv) n) (inTk place number amount n) i) → kJ p l e (kRm 9 163) s m args below meth c (gR D s.heap) 6 0 0 (MQ below (kQr (some (.int (bvS (fun zv => vrooms zv - inVt place number amount (nI zv) n) (inTk place number amount n) nv).1))) args s 0 0 (fun _ => False)) (wMR k a rr (nI dy) (nI nv) rounds (kB ub) (nI nb) vrooms vis (nI nf) rooms tanks cows bst (nI n) farm amount mark place number paid blamed) 12 [(0, .ref (a 0)), (1, .int (inTk place number amount n)), (2, .int x), (3, .int y), (4, .int (nI i))] [] := by
    intro dn12
    induction dn12 with
    | zero =>
      intro i x y hd12 hp
      refine k_iload E 4 rfl dX2_bestVat_12 ?_
      refine k_aload_n E 0 rfl rfl dX2_bestVat_14 ?_
      refine k_get E inX2 0 rfl rfl 2 (by decide) q_94 rfl rfl dX2_bestVat_15 ?_
      refine k_icmp_ge E (tgt := 57) (by decide) dX2_bestVat_18 (fun c18 => ?_) (fun c18 => absurd ((not_congr (nI_leI (a := nv) (b := i) (by omega) (by omega))).mp c18) (by omega))
      have c18 := (nI_leI (a := nv) (b := i) (by omega) (by omega)).mp c18
      have hx9 : x = (bvS (fun zv => vrooms zv - inVt place number amount (nI zv) n) (inTk place number amount n) nv).1 := by have q9 := congrArg Prod.fst hp; rw [show i = nv by omega] at q9; exact q9
      refine k_iload_n E 2 rfl rfl dX2_bestVat_57 ?_
      refine k_if_ge E (tgt := 71) (by decide) dX2_bestVat_58 (fun c58 => ?_) (fun c58 => absurd c58 (not_not_intro (by rw [hx9]; exact h0)))
      refine k_iload_n E 2 rfl rfl dX2_bestVat_71 ?_
      exact kr_iret E hr hlk (by rw [hx9]) dX2_bestVat_72
    | succ dn12 ih12 =>
      intro i x y hd12 hp
      refine k_iload E 4 rfl dX2_bestVat_12 ?_
      refine k_aload_n E 0 rfl rfl dX2_bestVat_14 ?_
      refine k_get E inX2 0 rfl rfl 2 (by decide) q_94 rfl rfl dX2_bestVat_15 ?_
      refine k_icmp_ge E (tgt := 57) (by decide) dX2_bestVat_18 (fun c18 => absurd ((nI_leI (a := nv) (b := i) (by omega) (by omega)).mp c18) (by omega)) (fun c18 => ?_)
      have c18 := (not_congr (nI_leI (a := nv) (b := i) (by omega) (by omega))).mp c18
      refine k_aload_n E 0 rfl rfl dX2_bestVat_21 ?_
      refine k_iload E 4 rfl dX2_bestVat_22 ?_
      refine k_callRV [.int (nI i)] E (m_X2_freeRoom l D k a rr dy nv rounds ub nb vrooms vis nf rooms tanks cows bst n farm amount mark place number paid blamed i (by first | assumption | omega) (by first | assumption | omega) (by first | assumption | omega)) cf_X2_freeRoom q_392 [0, 1, 2, 3, 4, 5, 6, 7, 8, 9, 10, 11, 12, 13, 14, 15, 16, 17, 18, 19, 20, 21] rfl 0 rfl rfl rfl rfl ⟨by decide, by decide⟩ (Nat.le_of_ble_eq_true rfl) ⟨by decide, by decide⟩ dX2_bestVat_24 ?_
      refine k_steq (st' := [.int (vrooms i - inVt place number amount (nI i) n)]) rfl ?_
      refine k_istore (lv' := [(5, .int (vrooms i - inVt place number amount (nI i) n)), (0, .ref (a 0)), (1, .int (inTk place number amount n)), (2, .int x), (3, .int y), (4, .int (nI i))]) E (by decide) rfl dX2_bestVat_27 ?_
      refine k_iload E 0 rfl dX2_bestVat_29 ?_
      refine k_iload_n E 2 rfl rfl dX2_bestVat_31 ?_
      refine k_icmp_lt E (tgt := 51) (by decide) dX2_bestVat_32 (fun c32 => ?_) (fun c32 => ?_)
      · skip
        refine k_iinc (q := 5) (v := nI (i + 1)) (lv' := [(4, .int (nI (i + 1))), (5, .int (vrooms i - inVt place number amount (nI i) n)), (0, .ref (a 0)), (1, .int (inTk place number amount n)), (2, .int x), (3, .int y)]) E rfl (nI_inc _) (by decide) rfl dX2_bestVat_51 ?_
        refine k_goto E (tgt := 12) (by decide) dX2_bestVat_54 ?_
        refine k_lv [2, 3, 4, 5, 0] rfl ?_
        exact ih12 (i + 1) x y (by omega) (by rw [bvS, ← hp]; first | (simp [c32]; done) | (simp [c32, c36]; done) | (simp [c32, c36, Int32.not_lt.mpr c42]; done) | (simp [c32, c36, Int32.not_le.mp c42]; done))
      · skip
        refine k_iload_n E 3 rfl rfl dX2_bestVat_35 ?_
        refine k_if_lt E (tgt := 45) (by decide) dX2_bestVat_36 (fun c36 => ?_) (fun c36 => ?_)
        · skip
          refine k_iload E 5 rfl dX2_bestVat_45 ?_
          refine k_istore_n (lv' := [(2, .int (nI i)), (5, .int (vrooms i - inVt place number amount (nI i) n)), (0, .ref (a 0)), (1, .int (inTk place number amount n)), (3, .int y), (4, .int (nI i))]) E rfl (by decide) rfl dX2_bestVat_47 ?_
          refine k_iload E 1 rfl dX2_bestVat_48 ?_
          refine k_istore_n (lv' := [(3, .int (vrooms i - inVt place number amount (nI i) n)), (2, .int (nI i)), (5, .int (vrooms i - inVt place number amount (nI i) n)), (0, .ref (a 0)), (1, .int (inTk place number amount n)), (4, .int (nI i))]) E rfl (by decide) rfl dX2_bestVat_50 ?_
          refine k_iinc (q := 5) (v := nI (i + 1)) (lv' := [(4, .int (nI (i + 1))), (3, .int (vrooms i - inVt place number amount (nI i) n)), (2, .int (nI i)), (5, .int (vrooms i - inVt place number amount (nI i) n)), (0, .ref (a 0)), (1, .int (inTk place number amount n))]) E rfl (nI_inc _) (by decide) rfl dX2_bestVat_51 ?_
          refine k_goto E (tgt := 12) (by decide) dX2_bestVat_54 ?_
          refine k_lv [4, 5, 2, 1, 0] rfl ?_
          exact ih12 (i + 1) (nI i) (vrooms i - inVt place number amount (nI i) n) (by omega) (by rw [bvS, ← hp]; first | (simp [c32]; done) | (simp [c32, c36]; done) | (simp [c32, c36, Int32.not_lt.mpr c42]; done) | (simp [c32, c36, Int32.not_le.mp c42]; done))
        · skip
          refine k_iload E 0 rfl dX2_bestVat_39 ?_
          refine k_iload_n E 4 rfl rfl dX2_bestVat_41 ?_
          refine k_icmp_ge E (tgt := 51) (by decide) dX2_bestVat_42 (fun c42 => ?_) (fun c42 => ?_)
          · skip
            refine k_iinc (q := 5) (v := nI (i + 1)) (lv' := [(4, .int (nI (i + 1))), (5, .int (vrooms i - inVt place number amount (nI i) n)), (0, .ref (a 0)), (1, .int (inTk place number amount n)), (2, .int x), (3, .int y)]) E rfl (nI_inc _) (by decide) rfl dX2_bestVat_51 ?_
            refine k_goto E (tgt := 12) (by decide) dX2_bestVat_54 ?_
            refine k_lv [2, 3, 4, 5, 0] rfl ?_
            exact ih12 (i + 1) x y (by omega) (by rw [bvS, ← hp]; first | (simp [c32]; done) | (simp [c32, c36]; done) | (simp [c32, c36, Int32.not_lt.mpr c42]; done) | (simp [c32, c36, Int32.not_le.mp c42]; done))
          · skip
            refine k_iload E 5 rfl dX2_bestVat_45 ?_
            refine k_istore_n (lv' := [(2, .int (nI i)), (5, .int (vrooms i - inVt place number amount (nI i) n)), (0, .ref (a 0)), (1, .int (inTk place number amount n)), (3, .int y), (4, .int (nI i))]) E rfl (by decide) rfl dX2_bestVat_47 ?_
            refine k_iload E 1 rfl dX2_bestVat_48 ?_
            refine k_istore_n (lv' := [(3, .int (vrooms i - inVt place number amount (nI i) n)), (2, .int (nI i)), (5, .int (vrooms i - inVt place number amount (nI i) n)), (0, .ref (a 0)), (1, .int (inTk place number amount n)), (4, .int (nI i))]) E rfl (by decide) rfl dX2_bestVat_50 ?_
            refine k_iinc (q := 5) (v := nI (i + 1)) (lv' := [(4, .int (nI (i + 1))), (3, .int (vrooms i - inVt place number amount (nI i) n)), (2, .int (nI i)), (5, .int (vrooms i - inVt place number amount (nI i) n)), (0, .ref (a 0)), (1, .int (inTk place number amount n))]) E rfl (nI_inc _) (by decide) rfl dX2_bestVat_51 ?_
            refine k_goto E (tgt := 12) (by decide) dX2_bestVat_54 ?_
            refine k_lv [4, 5, 2, 1, 0] rfl ?_
            exact ih12 (i + 1) (nI i) (vrooms i - inVt place number amount (nI i) n) (by omega) (by rw [bvS, ← hp]; first | (simp [c32]; done) | (simp [c32, c36]; done) | (simp [c32, c36, Int32.not_lt.mpr c42]; done) | (simp [c32, c36, Int32.not_le.mp c42]; done))
  refine k_aload_n E 0 rfl rfl dX2_bestVat_0 ?_
  refine k_callRV [] E (m_X2_inTanker l D k a rr dy nv rounds ub nb vrooms vis nf rooms tanks cows bst n farm amount mark place number paid blamed (by first | assumption | omega)) cf_X2_inTanker q_370 [0, 1, 2, 3, 4, 5, 6, 7, 8, 9, 10, 11, 12, 13, 14, 15, 16, 17, 18, 19, 20, 21] rfl 0 rfl rfl rfl rfl ⟨by decide, by decide⟩ (Nat.le_of_ble_eq_true rfl) ⟨by decide, by decide⟩ dX2_bestVat_1 ?_
  refine k_steq (st' := [.int (inTk place number amount n)]) rfl ?_
  refine k_istore_n (lv' := [(1, .int (inTk place number amount n)), (0, .ref (a 0))]) E rfl (by decide) rfl dX2_bestVat_4 ?_
  refine k_iconst E (v := (-1)) (by decide) dX2_bestVat_5 ?_
  refine k_istore_n (lv' := [(2, .int (-1)), (1, .int (inTk place number amount n)), (0, .ref (a 0))]) E rfl (by decide) rfl dX2_bestVat_6 ?_
  refine k_iconst E (v := 0) (by decide) dX2_bestVat_7 ?_
  refine k_istore_n (lv' := [(3, .int 0), (2, .int (-1)), (1, .int (inTk place number amount n)), (0, .ref (a 0))]) E rfl (by decide) rfl dX2_bestVat_8 ?_
  refine k_iconst E (v := 0) (by decide) dX2_bestVat_9 ?_
  refine k_istore (lv' := [(4, .int 0), (3, .int 0), (2, .int (-1)), (1, .int (inTk place number amount n)), (0, .ref (a 0))]) E (by decide) rfl dX2_bestVat_10 ?_
  refine k_lv [4, 3, 2, 1, 0] rfl ?_
  exact L12 (nv - 0) 0 (-1) 0 (by omega) rfl
set_option maxRecDepth 100000 in
set_option maxHeartbeats 4000000 in
theorem m_X2_close (l : Launch) (D : va_G) (k : Nat → ClassId) (a : Nat → Nat) (rr : Nat → Nat) (dy : Nat) (nv : Nat) (rounds : Int32) (ub : Bool) (nb : Nat) (vrooms : Nat → Int32) (vis : Nat → Int32) (nf : Nat) (rooms : Nat → Int32) (tanks : Nat → Int32) (cows : Nat → Int32) (bst : Nat → Nat → Int32) (n : Nat) (farm : Nat → Int32) (amount : Nat → Int32) (mark : Nat → Int32) (place : Nat → Int32) (number : Nat → Int32) (paid : Nat → Int32) (blamed : Nat → Int32) (j : Nat) (hj : j < nv) (hnv : nv ≤ 4) (hn : n ≤ 100) (hv : ¬ inVt place number amount (nI j) n = 0) (hb : nb < 20) : mW l yX2_close cX2_close 3 (some .int) 8 142 0 0 D (kTy k) [.ref (a 0), .int (nI j)] (wMR k a rr (nI dy) (nI nv) rounds (kB ub) (nI nb) vrooms vis (nI nf) rooms tanks cows bst (nI n) farm amount mark place number paid blamed) (some (.int (nI nb))) (wMR k a rr (nI dy) (nI nv) rounds (kB ub) (nI (nb + 1)) vrooms vis (nI nf) rooms tanks cows bst (nI n) farm amount mark (wr (cIn place number 118 (nI j)) (fun _ => 98) place n) (wr (cIn place number 118 (nI j)) (fun _ => nI nb) number n) (stP mark (wr (cIn place number 118 (nI j)) (fun _ => 98) place n) (wr (cIn place number 118 (nI j)) (fun _ => nI nb) number n) amount paid (nI nb) n) (stB mark (wr (cIn place number 118 (nI j)) (fun _ => 98) place n) (wr (cIn place number 118 (nI j)) (fun _ => nI nb) number n) amount blamed (nI nb) n)) := by
  refine mW.of (lv' := [(0, .ref (a 0)), (1, .int (nI j))]) (by decide) (Nat.le_of_ble_eq_true rfl) rfl ?_
  intro p e s m args below meth c E hr hlk hm hA
  refine k_aload_n E 0 rfl rfl dX2_close_0 ?_
  refine k_iload_n E 1 rfl rfl dX2_close_1 ?_
  refine k_callRV [.int (nI j)] E (m_X2_requireVat l D k a rr dy nv rounds ub nb vrooms vis nf rooms tanks cows bst n farm amount mark place number paid blamed j (by first | assumption | omega) (by first | assumption | omega)) cf_X2_requireVat q_387 [0, 1, 2, 3, 4, 5, 6, 7, 8, 9, 10, 11, 12, 13, 14, 15, 16, 17, 18, 19, 20, 21] rfl 0 rfl rfl rfl rfl ⟨by decide, by decide⟩ (Nat.le_of_ble_eq_true rfl) ⟨by decide, by decide⟩ dX2_close_2 ?_
  refine k_steq (st' := []) rfl ?_
  refine k_aload_n E 0 rfl rfl dX2_close_5 ?_
  refine k_iload_n E 1 rfl rfl dX2_close_6 ?_
  refine k_callRV [.int (nI j)] E (m_X2_inVat l D k a rr dy nv rounds ub nb vrooms vis nf rooms tanks cows bst n farm amount mark place number paid blamed j (by first | assumption | omega) (by first | assumption | omega) (by first | assumption | omega)) cf_X2_inVat q_396 [0, 1, 2, 3, 4, 5, 6, 7, 8, 9, 10, 11, 12, 13, 14, 15, 16, 17, 18, 19, 20, 21] rfl 0 rfl rfl rfl rfl ⟨by decide, by decide⟩ (Nat.le_of_ble_eq_true rfl) ⟨by decide, by decide⟩ dX2_close_7 ?_
  refine k_steq (st' := [.int (inVt place number amount (nI j) n)]) rfl ?_
  refine k_if_ne E (tgt := 23) (by decide) dX2_close_10 (fun c10 => ?_) (fun c10 => absurd c10 hv)
  refine k_aload_n E 0 rfl rfl dX2_close_23 ?_
  refine k_get E inX2 0 rfl rfl 8 (by decide) q_100 rfl rfl dX2_close_24 ?_
  refine k_bipush E (v := 20) (by decide) dX2_close_27 ?_
  refine k_icmp_lt E (tgt := 42) (by decide) dX2_close_29 (fun c29 => ?_) (fun c29 => absurd ((not_congr (nI_ltI (a := nb) (b := 20) (by omega) (by omega))).mp c29) (by omega))
  have c29 := (nI_ltI (a := nb) (b := 20) (by omega) (by omega)).mp c29
  refine k_aload_n E 0 rfl rfl dX2_close_42 ?_
  refine k_get E inX2 0 rfl rfl 8 (by decide) q_100 rfl rfl dX2_close_43 ?_
  refine k_istore_n (lv' := [(2, .int (nI nb)), (0, .ref (a 0)), (1, .int (nI j))]) E rfl (by decide) rfl dX2_close_46 ?_
  refine k_aload_n E 1 rfl rfl dX2_close_47 ?_
  refine k_dup E rfl dX2_close_48 ?_
  refine k_get E inX2 0 rfl rfl 8 (by decide) q_100 rfl rfl dX2_close_49 ?_
  refine k_iconst E (v := 1) (by decide) dX2_close_52 ?_
  refine k_iadd E dX2_close_53 ?_
  refine k_steq (st' := [.int (nI (nb + 1)), .ref (a 0)]) (by rw [show (nI nb) + 1 = nI (nb + 1) from nI_1 nb]) ?_
  refine k_put (ws' := (wMR k a rr (nI dy) (nI nv) rounds (kB ub) (nI (nb + 1)) vrooms vis (nI nf) rooms tanks cows bst (nI n) farm amount mark place number paid blamed)) E inX2 tyX2 tyX2_ok nmX2 0 rfl rfl 8 (by decide) q_100 rfl rfl rfl rfl (Nat.le_of_ble_eq_true rfl) rfl dX2_close_54 ?_
  refine k_aload_n E 1 rfl rfl dX2_close_57 ?_
  refine k_get E inX2 0 rfl rfl 7 (by decide) q_99 rfl rfl dX2_close_58 ?_
  refine k_bipush E (v := 118) (by decide) dX2_close_61 ?_
  refine k_iload_n E 2 rfl rfl dX2_close_63 ?_
  refine k_bipush E (v := 98) (by decide) dX2_close_64 ?_
  refine k_iload_n E 0 rfl rfl dX2_close_66 ?_
  refine k_callWVN [.int 118, .int (nI j), .int 98, .int (nI nb)] E hA (m_X1_move l D k (a 8) (a 9) (a 10) (a 11) (a 12) (a 13) (a 14) (a 15) n farm amount mark place number paid blamed 118 (nI j) 98 (nI nb) (by first | assumption | omega) (by decide)) cf_X1_move rfl (by decide +kernel) (xMR k a rr (nI dy) (nI nv) rounds (kB ub) (nI (nb + 1)) vrooms vis (nI nf) rooms tanks cows bst) [] (ws' := (wMR k a rr (nI dy) (nI nv) rounds (kB ub) (nI (nb + 1)) vrooms vis (nI nf) rooms tanks cows bst (nI n) farm amount mark (wr (cIn place number 118 (nI j)) (fun _ => 98) place n) (wr (cIn place number 118 (nI j)) (fun _ => (nI nb)) number n) paid blamed)) rfl rfl 14 rfl rfl rfl rfl ⟨by decide, by decide⟩ (Nat.le_of_ble_eq_true rfl) ⟨by decide, by decide⟩ dX2_close_67 ?_
  refine k_steq (st' := []) rfl ?_
  refine k_aload_n E 1 rfl rfl dX2_close_70 ?_
  refine k_get E inX2 0 rfl rfl 7 (by decide) q_99 rfl rfl dX2_close_71 ?_
  refine k_iload_n E 0 rfl rfl dX2_close_74 ?_
  refine k_callWVN [.int (nI nb)] E hA (m_X1_settle l D k (a 8) (a 9) (a 10) (a 11) (a 12) (a 13) (a 14) (a 15) n farm amount mark (wr (cIn place number 118 (nI j)) (fun _ => 98) place n) (wr (cIn place number 118 (nI j)) (fun _ => (nI nb)) number n) paid blamed (nI nb) (by first | assumption | omega)) cf_X1_settle rfl (by decide +kernel) (xMR k a rr (nI dy) (nI nv) rounds (kB ub) (nI (nb + 1)) vrooms vis (nI nf) rooms tanks cows bst) [] (ws' := (wMR k a rr (nI dy) (nI nv) rounds (kB ub) (nI (nb + 1)) vrooms vis (nI nf) rooms tanks cows bst (nI n) farm amount mark (wr (cIn place number 118 (nI j)) (fun _ => 98) place n) (wr (cIn place number 118 (nI j)) (fun _ => (nI nb)) number n) (stP mark (wr (cIn place number 118 (nI j)) (fun _ => 98) place n) (wr (cIn place number 118 (nI j)) (fun _ => (nI nb)) number n) amount paid (nI nb) n) (stB mark (wr (cIn place number 118 (nI j)) (fun _ => 98) place n) (wr (cIn place number 118 (nI j)) (fun _ => (nI nb)) number n) amount blamed (nI nb) n))) rfl rfl 14 rfl rfl rfl rfl ⟨by decide, by decide⟩ (Nat.le_of_ble_eq_true rfl) ⟨by decide, by decide⟩ dX2_close_75 ?_
  refine k_steq (st' := []) rfl ?_
  refine k_iload_n E 0 rfl rfl dX2_close_78 ?_
  exact kw_iret E hr hlk rfl rfl (by decide) (by decide) dX2_close_79
set_option maxRecDepth 100000 in
set_option maxHeartbeats 4000000 in
theorem m_X2_close_i (l : Launch) (D : va_G) (k : Nat → ClassId) (a : Nat → Nat) (rr : Nat → Nat) (dy : Nat) (nv : Nat) (rounds : Int32) (ub : Bool) (nb : Nat) (vrooms : Nat → Int32) (vis : Nat → Int32) (nf : Nat) (rooms : Nat → Int32) (tanks : Nat → Int32) (cows : Nat → Int32) (bst : Nat → Nat → Int32) (n : Nat) (farm : Nat → Int32) (amount : Nat → Int32) (mark : Nat → Int32) (place : Nat → Int32) (number : Nat → Int32) (paid : Nat → Int32) (blamed : Nat → Int32) (fa : Int32) (hlt : l.stackTraces = false) (hb : fa < 0 ∨ nI nv ≤ fa) : mX l yX2_close cX2_close 3 (some .int) 8 142 1 6 D (kTy k) [.ref (a 0), .int fa] (wMR k a rr (nI dy) (nI nv) rounds (kB ub) (nI nb) vrooms vis (nI nf) rooms tanks cows bst (nI n) farm amount mark place number paid blamed) (.inr "java/lang/IndexOutOfBoundsException") := by
  refine mX.of (lv' := [(0, .ref (a 0)), (1, .int fa)]) (by decide) (Nat.le_of_ble_eq_true rfl) rfl ?_
  intro p e s m args below meth c E hr hlk hex hZ hA
  refine k_aload_n E 0 rfl rfl dX2_close_0 ?_
  refine k_iload_n E 1 rfl rfl dX2_close_1 ?_
  refine k_callXV [.int fa] E hA hZ (m_X2_requireVat_b l D k a rr dy nv rounds ub nb vrooms vis nf rooms tanks cows bst n farm amount mark place number paid blamed fa hlt (by first | assumption | omega)) cf_X2_requireVat q_387 [] [] rfl 0 rfl rfl rfl rfl ⟨by decide, by decide⟩ (Nat.le_of_ble_eq_true rfl) ⟨by decide, by decide⟩ dX2_close_2 (fun v1 W1 ho => by cases ho) (fun X1 ho => ?_)
  cases ho
  exact k_xout hlk hex rfl rfl (by decide) (by decide)
set_option maxRecDepth 100000 in
set_option maxHeartbeats 4000000 in
theorem m_X2_close_u (l : Launch) (D : va_G) (k : Nat → ClassId) (a : Nat → Nat) (rr : Nat → Nat) (dy : Nat) (nv : Nat) (rounds : Int32) (ub : Bool) (nb : Nat) (vrooms : Nat → Int32) (vis : Nat → Int32) (nf : Nat) (rooms : Nat → Int32) (tanks : Nat → Int32) (cows : Nat → Int32) (bst : Nat → Nat → Int32) (n : Nat) (farm : Nat → Int32) (amount : Nat → Int32) (mark : Nat → Int32) (place : Nat → Int32) (number : Nat → Int32) (paid : Nat → Int32) (blamed : Nat → Int32) (j : Nat) (hlt : l.stackTraces = false) (hj : j < nv) (hnv : nv ≤ 4) (hn : n ≤ 100) (hv : inVt place number amount (nI j) n = 0) : mX l yX2_close cX2_close 3 (some .int) 8 142 1 6 D (kTy k) [.ref (a 0), .int (nI j)] (wMR k a rr (nI dy) (nI nv) rounds (kB ub) (nI nb) vrooms vis (nI nf) rooms tanks cows bst (nI n) farm amount mark place number paid blamed) (.inr "java/lang/UnsupportedOperationException") := by
  refine mX.of (lv' := [(0, .ref (a 0)), (1, .int (nI j))]) (by decide) (Nat.le_of_ble_eq_true rfl) rfl ?_
  intro p e s m args below meth c E hr hlk hex hZ hA
  refine k_aload_n E 0 rfl rfl dX2_close_0 ?_
  refine k_iload_n E 1 rfl rfl dX2_close_1 ?_
  refine k_callRV [.int (nI j)] E (m_X2_requireVat l D k a rr dy nv rounds ub nb vrooms vis nf rooms tanks cows bst n farm amount mark place number paid blamed j (by first | assumption | omega) (by first | assumption | omega)) cf_X2_requireVat q_387 [0, 1, 2, 3, 4, 5, 6, 7, 8, 9, 10, 11, 12, 13, 14, 15, 16, 17, 18, 19, 20, 21] rfl 0 rfl rfl rfl rfl ⟨by decide, by decide⟩ (Nat.le_of_ble_eq_true rfl) ⟨by decide, by decide⟩ dX2_close_2 ?_
  refine k_steq (st' := []) rfl ?_
  refine k_aload_n E 0 rfl rfl dX2_close_5 ?_
  refine k_iload_n E 1 rfl rfl dX2_close_6 ?_
  refine k_callRV [.int (nI j)] E (m_X2_inVat l D k a rr dy nv rounds ub nb vrooms vis nf rooms tanks cows bst n farm amount mark place number paid blamed j (by first | assumption | omega) (by first | assumption | omega) (by first | assumption | omega)) cf_X2_inVat q_396 [0, 1, 2, 3, 4, 5, 6, 7, 8, 9, 10, 11, 12, 13, 14, 15, 16, 17, 18, 19, 20, 21] rfl 0 rfl rfl rfl rfl ⟨by decide, by decide⟩ (Nat.le_of_ble_eq_true rfl) ⟨by decide, by decide⟩ dX2_close_7 ?_
  refine k_steq (st' := [.int (inVt place number amount (nI j) n)]) rfl ?_
  refine k_if_ne E (tgt := 23) (by decide) dX2_close_10 (fun c10 => absurd c10 (not_not_intro hv)) (fun c10 => ?_)
  exact k_throw (cls := "java/lang/UnsupportedOperationException") (text := "the vat is empty") (names := ["java/lang/RuntimeException", "java/lang/Exception"]) (ic := 128) E hlt hlk hex hZ rfl rfl rfl (by decide +kernel) (by decide +kernel) q_400 q_14 (by decide +kernel) gx_UnsupportedOperationException bx_UnsupportedOperationException ox_UnsupportedOperationException dX2_close_13 dX2_close_16 dX2_close_17 dX2_close_19 dX2_close_22 (by decide) (Nat.le_of_ble_eq_true rfl) (by decide) (by decide) (by decide) (by decide)
set_option maxRecDepth 100000 in
set_option maxHeartbeats 4000000 in
theorem m_X2_close_s (l : Launch) (D : va_G) (k : Nat → ClassId) (a : Nat → Nat) (rr : Nat → Nat) (dy : Nat) (nv : Nat) (rounds : Int32) (ub : Bool) (nb : Nat) (vrooms : Nat → Int32) (vis : Nat → Int32) (nf : Nat) (rooms : Nat → Int32) (tanks : Nat → Int32) (cows : Nat → Int32) (bst : Nat → Nat → Int32) (n : Nat) (farm : Nat → Int32) (amount : Nat → Int32) (mark : Nat → Int32) (place : Nat → Int32) (number : Nat → Int32) (paid : Nat → Int32) (blamed : Nat → Int32) (j : Nat) (hlt : l.stackTraces = false) (hj : j < nv) (hnv : nv ≤ 4) (hn : n ≤ 100) (hv : ¬ inVt place number amount (nI j) n = 0) (hb : nb = 20) : mX l yX2_close cX2_close 3 (some .int) 8 142 1 6 D (kTy k) [.ref (a 0), .int (nI j)] (wMR k a rr (nI dy) (nI nv) rounds (kB ub) (nI nb) vrooms vis (nI nf) rooms tanks cows bst (nI n) farm amount mark place number paid blamed) (.inr "java/lang/IllegalStateException") := by
  refine mX.of (lv' := [(0, .ref (a 0)), (1, .int (nI j))]) (by decide) (Nat.le_of_ble_eq_true rfl) rfl ?_
  intro p e s m args below meth c E hr hlk hex hZ hA
  refine k_aload_n E 0 rfl rfl dX2_close_0 ?_
  refine k_iload_n E 1 rfl rfl dX2_close_1 ?_
  refine k_callRV [.int (nI j)] E (m_X2_requireVat l D k a rr dy nv rounds ub nb vrooms vis nf rooms tanks cows bst n farm amount mark place number paid blamed j (by first | assumption | omega) (by first | assumption | omega)) cf_X2_requireVat q_387 [0, 1, 2, 3, 4, 5, 6, 7, 8, 9, 10, 11, 12, 13, 14, 15, 16, 17, 18, 19, 20, 21] rfl 0 rfl rfl rfl rfl ⟨by decide, by decide⟩ (Nat.le_of_ble_eq_true rfl) ⟨by decide, by decide⟩ dX2_close_2 ?_
  refine k_steq (st' := []) rfl ?_
  refine k_aload_n E 0 rfl rfl dX2_close_5 ?_
  refine k_iload_n E 1 rfl rfl dX2_close_6 ?_
  refine k_callRV [.int (nI j)] E (m_X2_inVat l D k a rr dy nv rounds ub nb vrooms vis nf rooms tanks cows bst n farm amount mark place number paid blamed j (by first | assumption | omega) (by first | assumption | omega) (by first | assumption | omega)) cf_X2_inVat q_396 [0, 1, 2, 3, 4, 5, 6, 7, 8, 9, 10, 11, 12, 13, 14, 15, 16, 17, 18, 19, 20, 21] rfl 0 rfl rfl rfl rfl ⟨by decide, by decide⟩ (Nat.le_of_ble_eq_true rfl) ⟨by decide, by decide⟩ dX2_close_7 ?_
  refine k_steq (st' := [.int (inVt place number amount (nI j) n)]) rfl ?_
  refine k_if_ne E (tgt := 23) (by decide) dX2_close_10 (fun c10 => ?_) (fun c10 => absurd c10 hv)
  refine k_aload_n E 0 rfl rfl dX2_close_23 ?_
  refine k_get E inX2 0 rfl rfl 8 (by decide) q_100 rfl rfl dX2_close_24 ?_
  refine k_bipush E (v := 20) (by decide) dX2_close_27 ?_
  refine k_icmp_lt E (tgt := 42) (by decide) dX2_close_29 (fun c29 => absurd ((nI_ltI (a := nb) (b := 20) (by omega) (by omega)).mp c29) (by omega)) (fun c29 => ?_)
  have c29 := (not_congr (nI_ltI (a := nb) (b := 20) (by omega) (by omega))).mp c29
  exact k_throw (cls := "java/lang/IllegalStateException") (text := "there are 20 batches") (names := ["java/lang/RuntimeException", "java/lang/Exception"]) (ic := 62) E hlt hlk hex hZ rfl rfl rfl (by decide +kernel) (by decide +kernel) q_225 q_9 (by decide +kernel) gx_IllegalStateException bx_IllegalStateException ox_IllegalStateException dX2_close_32 dX2_close_35 dX2_close_36 dX2_close_38 dX2_close_41 (by decide) (Nat.le_of_ble_eq_true rfl) (by decide) (by decide) (by decide) (by decide)
set_option maxRecDepth 100000 in
set_option maxHeartbeats 4000000 in
theorem m_X2_samples (l : Launch) (D : va_G) (k : Nat → ClassId) (a : Nat → Nat) (rr : Nat → Nat) (dy : Nat) (nv : Nat) (rounds : Int32) (ub : Bool) (nb : Nat) (vrooms : Nat → Int32) (vis : Nat → Int32) (nf : Nat) (rooms : Nat → Int32) (tanks : Nat → Int32) (cows : Nat → Int32) (bst : Nat → Nat → Int32) (n : Nat) (farm : Nat → Int32) (amount : Nat → Int32) (mark : Nat → Int32) (place : Nat → Int32) (number : Nat → Int32) (paid : Nat → Int32) (blamed : Nat → Int32)  : mR l yX2_samples cX2_samples 1 (some .int) 0 0 D (kTy k) [.ref (a 0)] (wMR k a rr (nI dy) (nI nv) rounds (kB ub) (nI nb) vrooms vis (nI nf) rooms tanks cows bst (nI n) farm amount mark place number paid blamed) (some (.int (nI n))) := by
  refine mR.of (lv' := [(0, .ref (a 0))]) (by decide) (Nat.le_of_ble_eq_true rfl) rfl ?_
  intro p e s m args below meth c E hr hlk
  refine k_aload_n E 0 rfl rfl dX2_samples_0 ?_
  refine k_get E inX2 0 rfl rfl 7 (by decide) q_99 rfl rfl dX2_samples_1 ?_
  refine k_getN E inX1 14 rfl rfl 0 (by decide) rfl (by decide +kernel) rfl rfl dX2_samples_4 ?_
  exact kr_iret E hr hlk rfl dX2_samples_7
set_option maxRecDepth 100000 in
set_option maxHeartbeats 4000000 in
theorem m_X2_batches (l : Launch) (D : va_G) (k : Nat → ClassId) (a : Nat → Nat) (rr : Nat → Nat) (dy : Nat) (nv : Nat) (rounds : Int32) (ub : Bool) (nb : Nat) (vrooms : Nat → Int32) (vis : Nat → Int32) (nf : Nat) (rooms : Nat → Int32) (tanks : Nat → Int32) (cows : Nat → Int32) (bst : Nat → Nat → Int32) (n : Nat) (farm : Nat → Int32) (amount : Nat → Int32) (mark : Nat → Int32) (place : Nat → Int32) (number : Nat → Int32) (paid : Nat → Int32) (blamed : Nat → Int32)  : mR l yX2_batches cX2_batches 1 (some .int) 0 0 D (kTy k) [.ref (a 0)] (wMR k a rr (nI dy) (nI nv) rounds (kB ub) (nI nb) vrooms vis (nI nf) rooms tanks cows bst (nI n) farm amount mark place number paid blamed) (some (.int (nI nb))) := by
  refine mR.of (lv' := [(0, .ref (a 0))]) (by decide) (Nat.le_of_ble_eq_true rfl) rfl ?_
  intro p e s m args below meth c E hr hlk
  refine k_aload_n E 0 rfl rfl dX2_batches_0 ?_
  refine k_get E inX2 0 rfl rfl 8 (by decide) q_100 rfl rfl dX2_batches_1 ?_
  exact kr_iret E hr hlk rfl dX2_batches_4
set_option maxRecDepth 100000 in
set_option maxHeartbeats 4000000 in
theorem m_X2_farmOf (l : Launch) (D : va_G) (k : Nat → ClassId) (a : Nat → Nat) (rr : Nat → Nat) (dy : Nat) (nv : Nat) (rounds : Int32) (ub : Bool) (nb : Nat) (vrooms : Nat → Int32) (vis : Nat → Int32) (nf : Nat) (rooms : Nat → Int32) (tanks : Nat → Int32) (cows : Nat → Int32) (bst : Nat → Nat → Int32) (n : Nat) (farm : Nat → Int32) (amount : Nat → Int32) (mark : Nat → Int32) (place : Nat → Int32) (number : Nat → Int32) (paid : Nat → Int32) (blamed : Nat → Int32) (j : Nat) (hj : j < n) (hn : n ≤ 100) : mR l yX2_farmOf cX2_farmOf 2 (some .int) 7 121 D (kTy k) [.ref (a 0), .int (nI j)] (wMR k a rr (nI dy) (nI nv) rounds (kB ub) (nI nb) vrooms vis (nI nf) rooms tanks cows bst (nI n) farm amount mark place number paid blamed) (some (.int (farm j))) := by
  refine mR.of (lv' := [(0, .ref (a 0)), (1, .int (nI j))]) (by decide) (Nat.le_of_ble_eq_true rfl) rfl ?_
  intro p e s m args below meth c E hr hlk
  refine k_aload_n E 0 rfl rfl dX2_farmOf_0 ?_
  refine k_iload_n E 1 rfl rfl dX2_farmOf_1 ?_
  refine k_callRV [.int (nI j)] E (m_X2_requireSample l D k a rr dy nv rounds ub nb vrooms vis nf rooms tanks cows bst n farm amount mark place number paid blamed j (by first | assumption | omega) (by first | assumption | omega)) cf_X2_requireSample q_504 [0, 1, 2, 3, 4, 5, 6, 7, 8, 9, 10, 11, 12, 13, 14, 15, 16, 17, 18, 19, 20, 21] rfl 0 rfl rfl rfl rfl ⟨by decide, by decide⟩ (Nat.le_of_ble_eq_true rfl) ⟨by decide, by decide⟩ dX2_farmOf_2 ?_
  refine k_steq (st' := []) rfl ?_
  refine k_aload_n E 0 rfl rfl dX2_farmOf_5 ?_
  refine k_get E inX2 0 rfl rfl 7 (by decide) q_99 rfl rfl dX2_farmOf_6 ?_
  refine k_getN E inX1 14 rfl rfl 1 (by decide) rfl (by decide +kernel) rfl rfl dX2_farmOf_9 ?_
  refine k_iload_n E 1 rfl rfl dX2_farmOf_12 ?_
  refine k_iald E (j := j) 15 0 rfl rfl rfl (by omega) (by decide) dX2_farmOf_13 ?_
  exact kr_iret E hr hlk rfl dX2_farmOf_14
set_option maxRecDepth 100000 in
set_option maxHeartbeats 4000000 in
theorem m_X2_farmOf_i (l : Launch) (D : va_G) (k : Nat → ClassId) (a : Nat → Nat) (rr : Nat → Nat) (dy : Nat) (nv : Nat) (rounds : Int32) (ub : Bool) (nb : Nat) (vrooms : Nat → Int32) (vis : Nat → Int32) (nf : Nat) (rooms : Nat → Int32) (tanks : Nat → Int32) (cows : Nat → Int32) (bst : Nat → Nat → Int32) (n : Nat) (farm : Nat → Int32) (amount : Nat → Int32) (mark : Nat → Int32) (place : Nat → Int32) (number : Nat → Int32) (paid : Nat → Int32) (blamed : Nat → Int32) (fa : Int32) (hlt : l.stackTraces = false) (hb : fa < 0 ∨ nI n ≤ fa) : mX l yX2_farmOf cX2_farmOf 2 (some .int) 7 121 1 6 D (kTy k) [.ref (a 0), .int fa] (wMR k a rr (nI dy) (nI nv) rounds (kB ub) (nI nb) vrooms vis (nI nf) rooms tanks cows bst (nI n) farm amount mark place number paid blamed) (.inr "java/lang/IndexOutOfBoundsException") := by
  refine mX.of (lv' := [(0, .ref (a 0)), (1, .int fa)]) (by decide) (Nat.le_of_ble_eq_true rfl) rfl ?_
  intro p e s m args below meth c E hr hlk hex hZ hA
  refine k_aload_n E 0 rfl rfl dX2_farmOf_0 ?_
  refine k_iload_n E 1 rfl rfl dX2_farmOf_1 ?_
  refine k_callXV [.int fa] E hA hZ (m_X2_requireSample_b l D k a rr dy nv rounds ub nb vrooms vis nf rooms tanks cows bst n farm amount mark place number paid blamed fa hlt (by first | assumption | omega)) cf_X2_requireSample q_504 [] [] rfl 0 rfl rfl rfl rfl ⟨by decide, by decide⟩ (Nat.le_of_ble_eq_true rfl) ⟨by decide, by decide⟩ dX2_farmOf_2 (fun v1 W1 ho => by cases ho) (fun X1 ho => ?_)
  cases ho
  exact k_xout hlk hex rfl rfl (by decide) (by decide)
set_option maxRecDepth 100000 in
set_option maxHeartbeats 4000000 in
theorem m_X2_litres (l : Launch) (D : va_G) (k : Nat → ClassId) (a : Nat → Nat) (rr : Nat → Nat) (dy : Nat) (nv : Nat) (rounds : Int32) (ub : Bool) (nb : Nat) (vrooms : Nat → Int32) (vis : Nat → Int32) (nf : Nat) (rooms : Nat → Int32) (tanks : Nat → Int32) (cows : Nat → Int32) (bst : Nat → Nat → Int32) (n : Nat) (farm : Nat → Int32) (amount : Nat → Int32) (mark : Nat → Int32) (place : Nat → Int32) (number : Nat → Int32) (paid : Nat → Int32) (blamed : Nat → Int32) (j : Nat) (hj : j < n) (hn : n ≤ 100) : mR l yX2_litres cX2_litres 2 (some .int) 7 121 D (kTy k) [.ref (a 0), .int (nI j)] (wMR k a rr (nI dy) (nI nv) rounds (kB ub) (nI nb) vrooms vis (nI nf) rooms tanks cows bst (nI n) farm amount mark place number paid blamed) (some (.int (amount j))) := by
  refine mR.of (lv' := [(0, .ref (a 0)), (1, .int (nI j))]) (by decide) (Nat.le_of_ble_eq_true rfl) rfl ?_
  intro p e s m args below meth c E hr hlk
  refine k_aload_n E 0 rfl rfl dX2_litres_0 ?_
  refine k_iload_n E 1 rfl rfl dX2_litres_1 ?_
  refine k_callRV [.int (nI j)] E (m_X2_requireSample l D k a rr dy nv rounds ub nb vrooms vis nf rooms tanks cows bst n farm amount mark place number paid blamed j (by first | assumption | omega) (by first | assumption | omega)) cf_X2_requireSample q_504 [0, 1, 2, 3, 4, 5, 6, 7, 8, 9, 10, 11, 12, 13, 14, 15, 16, 17, 18, 19, 20, 21] rfl 0 rfl rfl rfl rfl ⟨by decide, by decide⟩ (Nat.le_of_ble_eq_true rfl) ⟨by decide, by decide⟩ dX2_litres_2 ?_
  refine k_steq (st' := []) rfl ?_
  refine k_aload_n E 0 rfl rfl dX2_litres_5 ?_
  refine k_get E inX2 0 rfl rfl 7 (by decide) q_99 rfl rfl dX2_litres_6 ?_
  refine k_getN E inX1 14 rfl rfl 2 (by decide) rfl (by decide +kernel) rfl rfl dX2_litres_9 ?_
  refine k_iload_n E 1 rfl rfl dX2_litres_12 ?_
  refine k_iald E (j := j) 16 0 rfl rfl rfl (by omega) (by decide) dX2_litres_13 ?_
  exact kr_iret E hr hlk rfl dX2_litres_14
set_option maxRecDepth 100000 in
set_option maxHeartbeats 4000000 in
theorem m_X2_litres_i (l : Launch) (D : va_G) (k : Nat → ClassId) (a : Nat → Nat) (rr : Nat → Nat) (dy : Nat) (nv : Nat) (rounds : Int32) (ub : Bool) (nb : Nat) (vrooms : Nat → Int32) (vis : Nat → Int32) (nf : Nat) (rooms : Nat → Int32) (tanks : Nat → Int32) (cows : Nat → Int32) (bst : Nat → Nat → Int32) (n : Nat) (farm : Nat → Int32) (amount : Nat → Int32) (mark : Nat → Int32) (place : Nat → Int32) (number : Nat → Int32) (paid : Nat → Int32) (blamed : Nat → Int32) (fa : Int32) (hlt : l.stackTraces = false) (hb : fa < 0 ∨ nI n ≤ fa) : mX l yX2_litres cX2_litres 2 (some .int) 7 121 1 6 D (kTy k) [.ref (a 0), .int fa] (wMR k a rr (nI dy) (nI nv) rounds (kB ub) (nI nb) vrooms vis (nI nf) rooms tanks cows bst (nI n) farm amount mark place number paid blamed) (.inr "java/lang/IndexOutOfBoundsException") := by
  refine mX.of (lv' := [(0, .ref (a 0)), (1, .int fa)]) (by decide) (Nat.le_of_ble_eq_true rfl) rfl ?_
  intro p e s m args below meth c E hr hlk hex hZ hA
  refine k_aload_n E 0 rfl rfl dX2_litres_0 ?_
  refine k_iload_n E 1 rfl rfl dX2_litres_1 ?_
  refine k_callXV [.int fa] E hA hZ (m_X2_requireSample_b l D k a rr dy nv rounds ub nb vrooms vis nf rooms tanks cows bst n farm amount mark place number paid blamed fa hlt (by first | assumption | omega)) cf_X2_requireSample q_504 [] [] rfl 0 rfl rfl rfl rfl ⟨by decide, by decide⟩ (Nat.le_of_ble_eq_true rfl) ⟨by decide, by decide⟩ dX2_litres_2 (fun v1 W1 ho => by cases ho) (fun X1 ho => ?_)
  cases ho
  exact k_xout hlk hex rfl rfl (by decide) (by decide)
set_option maxRecDepth 100000 in
set_option maxHeartbeats 4000000 in
theorem m_X2_gradeOf (l : Launch) (D : va_G) (k : Nat → ClassId) (a : Nat → Nat) (rr : Nat → Nat) (dy : Nat) (nv : Nat) (rounds : Int32) (ub : Bool) (nb : Nat) (vrooms : Nat → Int32) (vis : Nat → Int32) (nf : Nat) (rooms : Nat → Int32) (tanks : Nat → Int32) (cows : Nat → Int32) (bst : Nat → Nat → Int32) (n : Nat) (farm : Nat → Int32) (amount : Nat → Int32) (mark : Nat → Int32) (place : Nat → Int32) (number : Nat → Int32) (paid : Nat → Int32) (blamed : Nat → Int32) (j : Nat) (hj : j < n) (hn : n ≤ 100) (hz : narrow .char (.int (mark j)) = .int (mark j)) : mR l yX2_gradeOf cX2_gradeOf 2 (some .char) 7 121 D (kTy k) [.ref (a 0), .int (nI j)] (wMR k a rr (nI dy) (nI nv) rounds (kB ub) (nI nb) vrooms vis (nI nf) rooms tanks cows bst (nI n) farm amount mark place number paid blamed) (some (.int (mark j))) := by
  refine mR.of (lv' := [(0, .ref (a 0)), (1, .int (nI j))]) (by decide) (Nat.le_of_ble_eq_true rfl) rfl ?_
  intro p e s m args below meth c E hr hlk
  refine k_aload_n E 0 rfl rfl dX2_gradeOf_0 ?_
  refine k_iload_n E 1 rfl rfl dX2_gradeOf_1 ?_
  refine k_callRV [.int (nI j)] E (m_X2_requireSample l D k a rr dy nv rounds ub nb vrooms vis nf rooms tanks cows bst n farm amount mark place number paid blamed j (by first | assumption | omega) (by first | assumption | omega)) cf_X2_requireSample q_504 [0, 1, 2, 3, 4, 5, 6, 7, 8, 9, 10, 11, 12, 13, 14, 15, 16, 17, 18, 19, 20, 21] rfl 0 rfl rfl rfl rfl ⟨by decide, by decide⟩ (Nat.le_of_ble_eq_true rfl) ⟨by decide, by decide⟩ dX2_gradeOf_2 ?_
  refine k_steq (st' := []) rfl ?_
  refine k_aload_n E 0 rfl rfl dX2_gradeOf_5 ?_
  refine k_get E inX2 0 rfl rfl 7 (by decide) q_99 rfl rfl dX2_gradeOf_6 ?_
  refine k_getN E inX1 14 rfl rfl 3 (by decide) rfl (by decide +kernel) rfl rfl dX2_gradeOf_9 ?_
  refine k_iload_n E 1 rfl rfl dX2_gradeOf_12 ?_
  refine k_cald E (j := j) 17 1 rfl rfl rfl (by omega) (by decide) dX2_gradeOf_13 ?_
  exact kr_zret E hr hlk (by assumption) rfl dX2_gradeOf_14
set_option maxRecDepth 100000 in
set_option maxHeartbeats 4000000 in
theorem m_X2_gradeOf_i (l : Launch) (D : va_G) (k : Nat → ClassId) (a : Nat → Nat) (rr : Nat → Nat) (dy : Nat) (nv : Nat) (rounds : Int32) (ub : Bool) (nb : Nat) (vrooms : Nat → Int32) (vis : Nat → Int32) (nf : Nat) (rooms : Nat → Int32) (tanks : Nat → Int32) (cows : Nat → Int32) (bst : Nat → Nat → Int32) (n : Nat) (farm : Nat → Int32) (amount : Nat → Int32) (mark : Nat → Int32) (place : Nat → Int32) (number : Nat → Int32) (paid : Nat → Int32) (blamed : Nat → Int32) (fa : Int32) (hlt : l.stackTraces = false) (hb : fa < 0 ∨ nI n ≤ fa) : mX l yX2_gradeOf cX2_gradeOf 2 (some .char) 7 121 1 6 D (kTy k) [.ref (a 0), .int fa] (wMR k a rr (nI dy) (nI nv) rounds (kB ub) (nI nb) vrooms vis (nI nf) rooms tanks cows bst (nI n) farm amount mark place number paid blamed) (.inr "java/lang/IndexOutOfBoundsException") := by
  refine mX.of (lv' := [(0, .ref (a 0)), (1, .int fa)]) (by decide) (Nat.le_of_ble_eq_true rfl) rfl ?_
  intro p e s m args below meth c E hr hlk hex hZ hA
  refine k_aload_n E 0 rfl rfl dX2_gradeOf_0 ?_
  refine k_iload_n E 1 rfl rfl dX2_gradeOf_1 ?_
  refine k_callXV [.int fa] E hA hZ (m_X2_requireSample_b l D k a rr dy nv rounds ub nb vrooms vis nf rooms tanks cows bst n farm amount mark place number paid blamed fa hlt (by first | assumption | omega)) cf_X2_requireSample q_504 [] [] rfl 0 rfl rfl rfl rfl ⟨by decide, by decide⟩ (Nat.le_of_ble_eq_true rfl) ⟨by decide, by decide⟩ dX2_gradeOf_2 (fun v1 W1 ho => by cases ho) (fun X1 ho => ?_)
  cases ho
  exact k_xout hlk hex rfl rfl (by decide) (by decide)
set_option maxRecDepth 100000 in
set_option maxHeartbeats 4000000 in
theorem m_X2_wayOf (l : Launch) (D : va_G) (k : Nat → ClassId) (a : Nat → Nat) (rr : Nat → Nat) (dy : Nat) (nv : Nat) (rounds : Int32) (ub : Bool) (nb : Nat) (vrooms : Nat → Int32) (vis : Nat → Int32) (nf : Nat) (rooms : Nat → Int32) (tanks : Nat → Int32) (cows : Nat → Int32) (bst : Nat → Nat → Int32) (n : Nat) (farm : Nat → Int32) (amount : Nat → Int32) (mark : Nat → Int32) (place : Nat → Int32) (number : Nat → Int32) (paid : Nat → Int32) (blamed : Nat → Int32) (j : Nat) (hj : j < n) (hn : n ≤ 100) (hz : narrow .char (.int (place j)) = .int (place j)) : mR l yX2_wayOf cX2_wayOf 2 (some .char) 7 121 D (kTy k) [.ref (a 0), .int (nI j)] (wMR k a rr (nI dy) (nI nv) rounds (kB ub) (nI nb) vrooms vis (nI nf) rooms tanks cows bst (nI n) farm amount mark place number paid blamed) (some (.int (place j))) := by
  refine mR.of (lv' := [(0, .ref (a 0)), (1, .int (nI j))]) (by decide) (Nat.le_of_ble_eq_true rfl) rfl ?_
  intro p e s m args below meth c E hr hlk
  refine k_aload_n E 0 rfl rfl dX2_wayOf_0 ?_
  refine k_iload_n E 1 rfl rfl dX2_wayOf_1 ?_
  refine k_callRV [.int (nI j)] E (m_X2_requireSample l D k a rr dy nv rounds ub nb vrooms vis nf rooms tanks cows bst n farm amount mark place number paid blamed j (by first | assumption | omega) (by first | assumption | omega)) cf_X2_requireSample q_504 [0, 1, 2, 3, 4, 5, 6, 7, 8, 9, 10, 11, 12, 13, 14, 15, 16, 17, 18, 19, 20, 21] rfl 0 rfl rfl rfl rfl ⟨by decide, by decide⟩ (Nat.le_of_ble_eq_true rfl) ⟨by decide, by decide⟩ dX2_wayOf_2 ?_
  refine k_steq (st' := []) rfl ?_
  refine k_aload_n E 0 rfl rfl dX2_wayOf_5 ?_
  refine k_get E inX2 0 rfl rfl 7 (by decide) q_99 rfl rfl dX2_wayOf_6 ?_
  refine k_getN E inX1 14 rfl rfl 4 (by decide) rfl (by decide +kernel) rfl rfl dX2_wayOf_9 ?_
  refine k_iload_n E 1 rfl rfl dX2_wayOf_12 ?_
  refine k_cald E (j := j) 18 1 rfl rfl rfl (by omega) (by decide) dX2_wayOf_13 ?_
  exact kr_zret E hr hlk (by assumption) rfl dX2_wayOf_14
set_option maxRecDepth 100000 in
set_option maxHeartbeats 4000000 in
theorem m_X2_wayOf_i (l : Launch) (D : va_G) (k : Nat → ClassId) (a : Nat → Nat) (rr : Nat → Nat) (dy : Nat) (nv : Nat) (rounds : Int32) (ub : Bool) (nb : Nat) (vrooms : Nat → Int32) (vis : Nat → Int32) (nf : Nat) (rooms : Nat → Int32) (tanks : Nat → Int32) (cows : Nat → Int32) (bst : Nat → Nat → Int32) (n : Nat) (farm : Nat → Int32) (amount : Nat → Int32) (mark : Nat → Int32) (place : Nat → Int32) (number : Nat → Int32) (paid : Nat → Int32) (blamed : Nat → Int32) (fa : Int32) (hlt : l.stackTraces = false) (hb : fa < 0 ∨ nI n ≤ fa) : mX l yX2_wayOf cX2_wayOf 2 (some .char) 7 121 1 6 D (kTy k) [.ref (a 0), .int fa] (wMR k a rr (nI dy) (nI nv) rounds (kB ub) (nI nb) vrooms vis (nI nf) rooms tanks cows bst (nI n) farm amount mark place number paid blamed) (.inr "java/lang/IndexOutOfBoundsException") := by
  refine mX.of (lv' := [(0, .ref (a 0)), (1, .int fa)]) (by decide) (Nat.le_of_ble_eq_true rfl) rfl ?_
  intro p e s m args below meth c E hr hlk hex hZ hA
  refine k_aload_n E 0 rfl rfl dX2_wayOf_0 ?_
  refine k_iload_n E 1 rfl rfl dX2_wayOf_1 ?_
  refine k_callXV [.int fa] E hA hZ (m_X2_requireSample_b l D k a rr dy nv rounds ub nb vrooms vis nf rooms tanks cows bst n farm amount mark place number paid blamed fa hlt (by first | assumption | omega)) cf_X2_requireSample q_504 [] [] rfl 0 rfl rfl rfl rfl ⟨by decide, by decide⟩ (Nat.le_of_ble_eq_true rfl) ⟨by decide, by decide⟩ dX2_wayOf_2 (fun v1 W1 ho => by cases ho) (fun X1 ho => ?_)
  cases ho
  exact k_xout hlk hex rfl rfl (by decide) (by decide)
set_option maxRecDepth 100000 in
set_option maxHeartbeats 4000000 in
theorem m_X2_grade (l : Launch) (D : va_G) (k : Nat → ClassId) (a : Nat → Nat) (rr : Nat → Nat) (dy : Nat) (nv : Nat) (rounds : Int32) (ub : Bool) (nb : Nat) (vrooms : Nat → Int32) (vis : Nat → Int32) (nf : Nat) (rooms : Nat → Int32) (tanks : Nat → Int32) (cows : Nat → Int32) (bst : Nat → Nat → Int32) (n : Nat) (farm : Nat → Int32) (amount : Nat → Int32) (mark : Nat → Int32) (place : Nat → Int32) (number : Nat → Int32) (paid : Nat → Int32) (blamed : Nat → Int32) (j : Nat) (g : Int32) (hj : j < n) (hn : n ≤ 100) (hg : g = 97 ∨ g = 98 ∨ g = 99 ∨ g = 120) (hnar : vp_nar .char g = g) (hm0 : mark j = 45) (hp0 : place j = 98) : mW l yX2_grade cX2_grade 3 (some .int) 7 121 0 0 D (kTy k) [.ref (a 0), .int (nI j), .int g] (wMR k a rr (nI dy) (nI nv) rounds (kB ub) (nI nb) vrooms vis (nI nf) rooms tanks cows bst (nI n) farm amount mark place number paid blamed) (some (.int (sI (fun zi => decide ((upd mark j g) zi = 45)) (fun _ => 1) n))) (wMR k a rr (nI dy) (nI nv) rounds (kB ub) (nI nb) vrooms vis (nI nf) rooms tanks cows bst (nI n) farm amount (upd mark j g) place number (stP (upd mark j g) place number amount paid (number j) n) (stB (upd mark j g) place number amount blamed (number j) n)) := by
  refine mW.of (lv' := [(0, .ref (a 0)), (1, .int (nI j)), (2, .int g)]) (by decide) (Nat.le_of_ble_eq_true rfl) rfl ?_
  intro p e s m args below meth c E hr hlk hm hA
  have L39 : kJ p l e (kRmc 7 121 0 0) s m args below meth c (gW D (va_A (wMR k a rr (nI dy) (nI nv) rounds (kB ub) (nI nb) vrooms vis (nI nf) rooms tanks cows bst (nI n) farm amount mark place number paid blamed) s.heap.size) s.heap) 3 0 0 (MQ below (kQw (some (.int (sI (fun zi => decide ((upd mark j g) zi = 45)) (fun _ => 1) n))) D (wMR k a rr (nI dy) (nI nv) rounds (kB ub) (nI nb) vrooms vis (nI nf) rooms tanks cows bst (nI n) farm amount mark place number paid blamed) (wMR k a rr (nI dy) (nI nv) rounds (kB ub) (nI nb) vrooms vis (nI nf) rooms tanks cows bst (nI n) farm amount (upd mark j g) place number (stP (upd mark j g) place number amount paid (number j) n) (stB (upd mark j g) place number amount blamed (number j) n)) s.heap.size) args s 0 0 (va_A (wMR k a rr (nI dy) (nI nv) rounds (kB ub) (nI nb) vrooms vis (nI nf) rooms tanks cows bst (nI n) farm amount mark place number paid blamed) s.heap.size)) (wMR k a rr (nI dy) (nI nv) rounds (kB ub) (nI nb) vrooms vis (nI nf) rooms tanks cows bst (nI n) farm amount mark place number paid blamed) 39 [(0, .ref (a 0)), (1, .int (nI j)), (2, .int g)] [] := by
    refine k_aload_n E 0 rfl rfl dX2_grade_39 ?_
    refine k_get E inX2 0 rfl rfl 7 (by decide) q_99 rfl rfl dX2_grade_40 ?_
    refine k_getN E inX1 14 rfl rfl 3 (by decide) rfl (by decide +kernel) rfl rfl dX2_grade_43 ?_
    refine k_iload_n E 1 rfl rfl dX2_grade_46 ?_
    refine k_cald E (j := j) 17 1 rfl rfl rfl (by omega) (by decide) dX2_grade_47 ?_
    refine k_bipush E (v := 45) (by decide) dX2_grade_48 ?_
    refine k_icmp_eq E (tgt := 63) (by decide) dX2_grade_50 (fun c50 => ?_) (fun c50 => absurd c50 (not_not_intro hm0))
    refine k_aload_n E 0 rfl rfl dX2_grade_63 ?_
    refine k_get E inX2 0 rfl rfl 7 (by decide) q_99 rfl rfl dX2_grade_64 ?_
    refine k_getN E inX1 14 rfl rfl 3 (by decide) rfl (by decide +kernel) rfl rfl dX2_grade_67 ?_
    refine k_iload_n E 1 rfl rfl dX2_grade_70 ?_
    refine k_iload_n E 2 rfl rfl dX2_grade_71 ?_
    refine k_cast (y := g) (j := j) (ws' := (wMR k a rr (nI dy) (nI nv) rounds (kB ub) (nI nb) vrooms vis (nI nf) rooms tanks cows bst (nI n) farm amount (upd mark j g) place number paid blamed)) E 17 1 rfl rfl rfl (by omega) (by decide) hnar rfl dX2_grade_72 ?_
    refine k_aload_n E 0 rfl rfl dX2_grade_73 ?_
    refine k_get E inX2 0 rfl rfl 7 (by decide) q_99 rfl rfl dX2_grade_74 ?_
    refine k_getN E inX1 14 rfl rfl 4 (by decide) rfl (by decide +kernel) rfl rfl dX2_grade_77 ?_
    refine k_iload_n E 1 rfl rfl dX2_grade_80 ?_
    refine k_cald E (j := j) 18 1 rfl rfl rfl (by omega) (by decide) dX2_grade_81 ?_
    refine k_bipush E (v := 98) (by decide) dX2_grade_82 ?_
    refine k_icmp_ne E (tgt := 103) (by decide) dX2_grade_84 (fun c84 => absurd c84 (not_not_intro hp0)) (fun c84 => ?_)
    refine k_aload_n E 0 rfl rfl dX2_grade_87 ?_
    refine k_get E inX2 0 rfl rfl 7 (by decide) q_99 rfl rfl dX2_grade_88 ?_
    refine k_aload_n E 0 rfl rfl dX2_grade_91 ?_
    refine k_get E inX2 0 rfl rfl 7 (by decide) q_99 rfl rfl dX2_grade_92 ?_
    refine k_getN E inX1 14 rfl rfl 5 (by decide) rfl (by decide +kernel) rfl rfl dX2_grade_95 ?_
    refine k_iload_n E 1 rfl rfl dX2_grade_98 ?_
    refine k_iald E (j := j) 19 0 rfl rfl rfl (by omega) (by decide) dX2_grade_99 ?_
    refine k_callWVN [.int (number j)] E hA (m_X1_settle l D k (a 8) (a 9) (a 10) (a 11) (a 12) (a 13) (a 14) (a 15) n farm amount (upd mark j g) place number paid blamed (number j) (by first | assumption | omega)) cf_X1_settle rfl (by decide +kernel) (xMR k a rr (nI dy) (nI nv) rounds (kB ub) (nI nb) vrooms vis (nI nf) rooms tanks cows bst) [] (ws' := (wMR k a rr (nI dy) (nI nv) rounds (kB ub) (nI nb) vrooms vis (nI nf) rooms tanks cows bst (nI n) farm amount (upd mark j g) place number (stP (upd mark j g) place number amount paid (number j) n) (stB (upd mark j g) place number amount blamed (number j) n))) rfl rfl 14 rfl rfl rfl rfl ⟨by decide, by decide⟩ (Nat.le_of_ble_eq_true rfl) ⟨by decide, by decide⟩ dX2_grade_100 ?_
    refine k_steq (st' := []) rfl ?_
    refine k_aload_n E 0 rfl rfl dX2_grade_103 ?_
    refine k_get E inX2 0 rfl rfl 7 (by decide) q_99 rfl rfl dX2_grade_104 ?_
    refine k_callRVN [] E (m_X1_ungraded l D k (a 8) (a 9) (a 10) (a 11) (a 12) (a 13) (a 14) (a 15) n farm amount (upd mark j g) place number (stP (upd mark j g) place number amount paid (number j) n) (stB (upd mark j g) place number amount blamed (number j) n) (by first | assumption | omega)) cf_X1_ungraded rfl (by decide +kernel) [14, 15, 16, 17, 18, 19, 20, 21] rfl 14 rfl rfl rfl rfl ⟨by decide, by decide⟩ (Nat.le_of_ble_eq_true rfl) ⟨by decide, by decide⟩ dX2_grade_107 ?_
    refine k_steq (st' := [.int (sI (fun zi => decide ((upd mark j g) zi = 45)) (fun _ => 1) n)]) rfl ?_
    exact kw_iret E hr hlk rfl rfl (by decide) (by decide) dX2_grade_110
  refine k_aload_n E 0 rfl rfl dX2_grade_0 ?_
  refine k_iload_n E 1 rfl rfl dX2_grade_1 ?_
  refine k_callRV [.int (nI j)] E (m_X2_requireSample l D k a rr dy nv rounds ub nb vrooms vis nf rooms tanks cows bst n farm amount mark place number paid blamed j (by first | assumption | omega) (by first | assumption | omega)) cf_X2_requireSample q_504 [0, 1, 2, 3, 4, 5, 6, 7, 8, 9, 10, 11, 12, 13, 14, 15, 16, 17, 18, 19, 20, 21] rfl 0 rfl rfl rfl rfl ⟨by decide, by decide⟩ (Nat.le_of_ble_eq_true rfl) ⟨by decide, by decide⟩ dX2_grade_2 ?_
  refine k_steq (st' := []) rfl ?_
  refine k_iload_n E 2 rfl rfl dX2_grade_5 ?_
  refine k_bipush E (v := 97) (by decide) dX2_grade_6 ?_
  refine k_icmp_eq E (tgt := 39) (by decide) dX2_grade_8 (fun c8 => ?_) (fun c8 => ?_)
  · skip
    refine k_lv [0, 1, 2] rfl ?_
    exact L39  
  · skip
    refine k_iload_n E 2 rfl rfl dX2_grade_11 ?_
    refine k_bipush E (v := 98) (by decide) dX2_grade_12 ?_
    refine k_icmp_eq E (tgt := 39) (by decide) dX2_grade_14 (fun c14 => ?_) (fun c14 => ?_)
    · skip
      refine k_lv [0, 1, 2] rfl ?_
      exact L39  
    · skip
      refine k_iload_n E 2 rfl rfl dX2_grade_17 ?_
      refine k_bipush E (v := 99) (by decide) dX2_grade_18 ?_
      refine k_icmp_eq E (tgt := 39) (by decide) dX2_grade_20 (fun c20 => ?_) (fun c20 => ?_)
      · skip
        refine k_lv [0, 1, 2] rfl ?_
        exact L39  
      · skip
        refine k_iload_n E 2 rfl rfl dX2_grade_23 ?_
        refine k_bipush E (v := 120) (by decide) dX2_grade_24 ?_
        refine k_icmp_eq E (tgt := 39) (by decide) dX2_grade_26 (fun c26 => ?_) (fun c26 => absurd c26 (fun q => by rcases hg with w | w | w | w <;> first | exact c8 w | exact c14 w | exact c20 w | exact q w))
        refine k_lv [0, 1, 2] rfl ?_
        exact L39  
set_option maxRecDepth 100000 in
set_option maxHeartbeats 4000000 in
theorem m_X2_grade0 (l : Launch) (D : va_G) (k : Nat → ClassId) (a : Nat → Nat) (rr : Nat → Nat) (dy : Nat) (nv : Nat) (rounds : Int32) (ub : Bool) (nb : Nat) (vrooms : Nat → Int32) (vis : Nat → Int32) (nf : Nat) (rooms : Nat → Int32) (tanks : Nat → Int32) (cows : Nat → Int32) (bst : Nat → Nat → Int32) (n : Nat) (farm : Nat → Int32) (amount : Nat → Int32) (mark : Nat → Int32) (place : Nat → Int32) (number : Nat → Int32) (paid : Nat → Int32) (blamed : Nat → Int32) (j : Nat) (g : Int32) (hj : j < n) (hn : n ≤ 100) (hg : g = 97 ∨ g = 98 ∨ g = 99 ∨ g = 120) (hnar : vp_nar .char g = g) (hm0 : mark j = 45) (hp0 : ¬ place j = 98) : mW l yX2_grade cX2_grade 3 (some .int) 7 121 0 0 D (kTy k) [.ref (a 0), .int (nI j), .int g] (wMR k a rr (nI dy) (nI nv) rounds (kB ub) (nI nb) vrooms vis (nI nf) rooms tanks cows bst (nI n) farm amount mark place number paid blamed) (some (.int (sI (fun zi => decide ((upd mark j g) zi = 45)) (fun _ => 1) n))) (wMR k a rr (nI dy) (nI nv) rounds (kB ub) (nI nb) vrooms vis (nI nf) rooms tanks cows bst (nI n) farm amount (upd mark j g) place number paid blamed) := by
  refine mW.of (lv' := [(0, .ref (a 0)), (1, .int (nI j)), (2, .int g)]) (by decide) (Nat.le_of_ble_eq_true rfl) rfl ?_
  intro p e s m args below meth c E hr hlk hm hA
  have L39 : kJ p l e (kRmc 7 121 0 0) s m args below meth c (gW D (va_A (wMR k a rr (nI dy) (nI nv) rounds (kB ub) (nI nb) vrooms vis (nI nf) rooms tanks cows bst (nI n) farm amount mark place number paid blamed) s.heap.size) s.heap) 3 0 0 (MQ below (kQw (some (.int (sI (fun zi => decide ((upd mark j g) zi = 45)) (fun _ => 1) n))) D (wMR k a rr (nI dy) (nI nv) rounds (kB ub) (nI nb) vrooms vis (nI nf) rooms tanks cows bst (nI n) farm amount mark place number paid blamed) (wMR k a rr (nI dy) (nI nv) rounds (kB ub) (nI nb) vrooms vis (nI nf) rooms tanks cows bst (nI n) farm amount (upd mark j g) place number paid blamed) s.heap.size) args s 0 0 (va_A (wMR k a rr (nI dy) (nI nv) rounds (kB ub) (nI nb) vrooms vis (nI nf) rooms tanks cows bst (nI n) farm amount mark place number paid blamed) s.heap.size)) (wMR k a rr (nI dy) (nI nv) rounds (kB ub) (nI nb) vrooms vis (nI nf) rooms tanks cows bst (nI n) farm amount mark place number paid blamed) 39 [(0, .ref (a 0)), (1, .int (nI j)), (2, .int g)] [] := by
    refine k_aload_n E 0 rfl rfl dX2_grade_39 ?_
    refine k_get E inX2 0 rfl rfl 7 (by decide) q_99 rfl rfl dX2_grade_40 ?_
    refine k_getN E inX1 14 rfl rfl 3 (by decide) rfl (by decide +kernel) rfl rfl dX2_grade_43 ?_
    refine k_iload_n E 1 rfl rfl dX2_grade_46 ?_
    refine k_cald E (j := j) 17 1 rfl rfl rfl (by omega) (by decide) dX2_grade_47 ?_
    refine k_bipush E (v := 45) (by decide) dX2_grade_48 ?_
    refine k_icmp_eq E (tgt := 63) (by decide) dX2_grade_50 (fun c50 => ?_) (fun c50 => absurd c50 (not_not_intro hm0))
    refine k_aload_n E 0 rfl rfl dX2_grade_63 ?_
    refine k_get E inX2 0 rfl rfl 7 (by decide) q_99 rfl rfl dX2_grade_64 ?_
    refine k_getN E inX1 14 rfl rfl 3 (by decide) rfl (by decide +kernel) rfl rfl dX2_grade_67 ?_
    refine k_iload_n E 1 rfl rfl dX2_grade_70 ?_
    refine k_iload_n E 2 rfl rfl dX2_grade_71 ?_
    refine k_cast (y := g) (j := j) (ws' := (wMR k a rr (nI dy) (nI nv) rounds (kB ub) (nI nb) vrooms vis (nI nf) rooms tanks cows bst (nI n) farm amount (upd mark j g) place number paid blamed)) E 17 1 rfl rfl rfl (by omega) (by decide) hnar rfl dX2_grade_72 ?_
    refine k_aload_n E 0 rfl rfl dX2_grade_73 ?_
    refine k_get E inX2 0 rfl rfl 7 (by decide) q_99 rfl rfl dX2_grade_74 ?_
    refine k_getN E inX1 14 rfl rfl 4 (by decide) rfl (by decide +kernel) rfl rfl dX2_grade_77 ?_
    refine k_iload_n E 1 rfl rfl dX2_grade_80 ?_
    refine k_cald E (j := j) 18 1 rfl rfl rfl (by omega) (by decide) dX2_grade_81 ?_
    refine k_bipush E (v := 98) (by decide) dX2_grade_82 ?_
    refine k_icmp_ne E (tgt := 103) (by decide) dX2_grade_84 (fun c84 => ?_) (fun c84 => absurd c84 hp0)
    refine k_aload_n E 0 rfl rfl dX2_grade_103 ?_
    refine k_get E inX2 0 rfl rfl 7 (by decide) q_99 rfl rfl dX2_grade_104 ?_
    refine k_callRVN [] E (m_X1_ungraded l D k (a 8) (a 9) (a 10) (a 11) (a 12) (a 13) (a 14) (a 15) n farm amount (upd mark j g) place number paid blamed (by first | assumption | omega)) cf_X1_ungraded rfl (by decide +kernel) [14, 15, 16, 17, 18, 19, 20, 21] rfl 14 rfl rfl rfl rfl ⟨by decide, by decide⟩ (Nat.le_of_ble_eq_true rfl) ⟨by decide, by decide⟩ dX2_grade_107 ?_
    refine k_steq (st' := [.int (sI (fun zi => decide ((upd mark j g) zi = 45)) (fun _ => 1) n)]) rfl ?_
    exact kw_iret E hr hlk rfl rfl (by decide) (by decide) dX2_grade_110
  refine k_aload_n E 0 rfl rfl dX2_grade_0 ?_
  refine k_iload_n E 1 rfl rfl dX2_grade_1 ?_
  refine k_callRV [.int (nI j)] E (m_X2_requireSample l D k a rr dy nv rounds ub nb vrooms vis nf rooms tanks cows bst n farm amount mark place number paid blamed j (by first | assumption | omega) (by first | assumption | omega)) cf_X2_requireSample q_504 [0, 1, 2, 3, 4, 5, 6, 7, 8, 9, 10, 11, 12, 13, 14, 15, 16, 17, 18, 19, 20, 21] rfl 0 rfl rfl rfl rfl ⟨by decide, by decide⟩ (Nat.le_of_ble_eq_true rfl) ⟨by decide, by decide⟩ dX2_grade_2 ?_
  refine k_steq (st' := []) rfl ?_
  refine k_iload_n E 2 rfl rfl dX2_grade_5 ?_
  refine k_bipush E (v := 97) (by decide) dX2_grade_6 ?_
  refine k_icmp_eq E (tgt := 39) (by decide) dX2_grade_8 (fun c8 => ?_) (fun c8 => ?_)
  · skip
    refine k_lv [0, 1, 2] rfl ?_
    exact L39  
  · skip
    refine k_iload_n E 2 rfl rfl dX2_grade_11 ?_
    refine k_bipush E (v := 98) (by decide) dX2_grade_12 ?_
    refine k_icmp_eq E (tgt := 39) (by decide) dX2_grade_14 (fun c14 => ?_) (fun c14 => ?_)
    · skip
      refine k_lv [0, 1, 2] rfl ?_
      exact L39  
    · skip
      refine k_iload_n E 2 rfl rfl dX2_grade_17 ?_
      refine k_bipush E (v := 99) (by decide) dX2_grade_18 ?_
      refine k_icmp_eq E (tgt := 39) (by decide) dX2_grade_20 (fun c20 => ?_) (fun c20 => ?_)
      · skip
        refine k_lv [0, 1, 2] rfl ?_
        exact L39  
      · skip
        refine k_iload_n E 2 rfl rfl dX2_grade_23 ?_
        refine k_bipush E (v := 120) (by decide) dX2_grade_24 ?_
        refine k_icmp_eq E (tgt := 39) (by decide) dX2_grade_26 (fun c26 => ?_) (fun c26 => absurd c26 (fun q => by rcases hg with w | w | w | w <;> first | exact c8 w | exact c14 w | exact c20 w | exact q w))
        refine k_lv [0, 1, 2] rfl ?_
        exact L39  
set_option maxRecDepth 100000 in
set_option maxHeartbeats 4000000 in
theorem m_X2_grade_i (l : Launch) (D : va_G) (k : Nat → ClassId) (a : Nat → Nat) (rr : Nat → Nat) (dy : Nat) (nv : Nat) (rounds : Int32) (ub : Bool) (nb : Nat) (vrooms : Nat → Int32) (vis : Nat → Int32) (nf : Nat) (rooms : Nat → Int32) (tanks : Nat → Int32) (cows : Nat → Int32) (bst : Nat → Nat → Int32) (n : Nat) (farm : Nat → Int32) (amount : Nat → Int32) (mark : Nat → Int32) (place : Nat → Int32) (number : Nat → Int32) (paid : Nat → Int32) (blamed : Nat → Int32) (fa : Int32) (g : Int32) (hlt : l.stackTraces = false) (hb : fa < 0 ∨ nI n ≤ fa) : mX l yX2_grade cX2_grade 3 (some .int) 7 121 1 6 D (kTy k) [.ref (a 0), .int fa, .int g] (wMR k a rr (nI dy) (nI nv) rounds (kB ub) (nI nb) vrooms vis (nI nf) rooms tanks cows bst (nI n) farm amount mark place number paid blamed) (.inr "java/lang/IndexOutOfBoundsException") := by
  refine mX.of (lv' := [(0, .ref (a 0)), (1, .int fa), (2, .int g)]) (by decide) (Nat.le_of_ble_eq_true rfl) rfl ?_
  intro p e s m args below meth c E hr hlk hex hZ hA
  refine k_aload_n E 0 rfl rfl dX2_grade_0 ?_
  refine k_iload_n E 1 rfl rfl dX2_grade_1 ?_
  refine k_callXV [.int fa] E hA hZ (m_X2_requireSample_b l D k a rr dy nv rounds ub nb vrooms vis nf rooms tanks cows bst n farm amount mark place number paid blamed fa hlt (by first | assumption | omega)) cf_X2_requireSample q_504 [] [] rfl 0 rfl rfl rfl rfl ⟨by decide, by decide⟩ (Nat.le_of_ble_eq_true rfl) ⟨by decide, by decide⟩ dX2_grade_2 (fun v1 W1 ho => by cases ho) (fun X1 ho => ?_)
  cases ho
  exact k_xout hlk hex rfl rfl (by decide) (by decide)
set_option maxRecDepth 100000 in
set_option maxHeartbeats 4000000 in
theorem m_X2_grade_a (l : Launch) (D : va_G) (k : Nat → ClassId) (a : Nat → Nat) (rr : Nat → Nat) (dy : Nat) (nv : Nat) (rounds : Int32) (ub : Bool) (nb : Nat) (vrooms : Nat → Int32) (vis : Nat → Int32) (nf : Nat) (rooms : Nat → Int32) (tanks : Nat → Int32) (cows : Nat → Int32) (bst : Nat → Nat → Int32) (n : Nat) (farm : Nat → Int32) (amount : Nat → Int32) (mark : Nat → Int32) (place : Nat → Int32) (number : Nat → Int32) (paid : Nat → Int32) (blamed : Nat → Int32) (j : Nat) (g : Int32) (hlt : l.stackTraces = false) (hj : j < n) (hn : n ≤ 100) (h1 : ¬ g = 97) (h2 : ¬ g = 98) (h3 : ¬ g = 99) (h4 : ¬ g = 120) : mX l yX2_grade cX2_grade 3 (some .int) 7 121 1 6 D (kTy k) [.ref (a 0), .int (nI j), .int g] (wMR k a rr (nI dy) (nI nv) rounds (kB ub) (nI nb) vrooms vis (nI nf) rooms tanks cows bst (nI n) farm amount mark place number paid blamed) (.inr "java/lang/IllegalArgumentException") := by
  refine mX.of (lv' := [(0, .ref (a 0)), (1, .int (nI j)), (2, .int g)]) (by decide) (Nat.le_of_ble_eq_true rfl) rfl ?_
  intro p e s m args below meth c E hr hlk hex hZ hA
  refine k_aload_n E 0 rfl rfl dX2_grade_0 ?_
  refine k_iload_n E 1 rfl rfl dX2_grade_1 ?_
  refine k_callRV [.int (nI j)] E (m_X2_requireSample l D k a rr dy nv rounds ub nb vrooms vis nf rooms tanks cows bst n farm amount mark place number paid blamed j (by first | assumption | omega) (by first | assumption | omega)) cf_X2_requireSample q_504 [0, 1, 2, 3, 4, 5, 6, 7, 8, 9, 10, 11, 12, 13, 14, 15, 16, 17, 18, 19, 20, 21] rfl 0 rfl rfl rfl rfl ⟨by decide, by decide⟩ (Nat.le_of_ble_eq_true rfl) ⟨by decide, by decide⟩ dX2_grade_2 ?_
  refine k_steq (st' := []) rfl ?_
  refine k_iload_n E 2 rfl rfl dX2_grade_5 ?_
  refine k_bipush E (v := 97) (by decide) dX2_grade_6 ?_
  refine k_icmp_eq E (tgt := 39) (by decide) dX2_grade_8 (fun c8 => absurd c8 h1) (fun c8 => ?_)
  refine k_iload_n E 2 rfl rfl dX2_grade_11 ?_
  refine k_bipush E (v := 98) (by decide) dX2_grade_12 ?_
  refine k_icmp_eq E (tgt := 39) (by decide) dX2_grade_14 (fun c14 => absurd c14 h2) (fun c14 => ?_)
  refine k_iload_n E 2 rfl rfl dX2_grade_17 ?_
  refine k_bipush E (v := 99) (by decide) dX2_grade_18 ?_
  refine k_icmp_eq E (tgt := 39) (by decide) dX2_grade_20 (fun c20 => absurd c20 h3) (fun c20 => ?_)
  refine k_iload_n E 2 rfl rfl dX2_grade_23 ?_
  refine k_bipush E (v := 120) (by decide) dX2_grade_24 ?_
  refine k_icmp_eq E (tgt := 39) (by decide) dX2_grade_26 (fun c26 => absurd c26 h4) (fun c26 => ?_)
  exact k_throw (cls := "java/lang/IllegalArgumentException") (text := "a grade is a, b, c or x") (names := ["java/lang/RuntimeException", "java/lang/Exception"]) (ic := 52) E hlt hlk hex hZ rfl rfl rfl (by decide +kernel) (by decide +kernel) q_153 q_8 (by decide +kernel) gx_IllegalArgumentException bx_IllegalArgumentException ox_IllegalArgumentException dX2_grade_29 dX2_grade_32 dX2_grade_33 dX2_grade_35 dX2_grade_38 (by decide) (Nat.le_of_ble_eq_true rfl) (by decide) (by decide) (by decide) (by decide)
set_option maxRecDepth 100000 in
set_option maxHeartbeats 4000000 in
theorem m_X2_grade_s (l : Launch) (D : va_G) (k : Nat → ClassId) (a : Nat → Nat) (rr : Nat → Nat) (dy : Nat) (nv : Nat) (rounds : Int32) (ub : Bool) (nb : Nat) (vrooms : Nat → Int32) (vis : Nat → Int32) (nf : Nat) (rooms : Nat → Int32) (tanks : Nat → Int32) (cows : Nat → Int32) (bst : Nat → Nat → Int32) (n : Nat) (farm : Nat → Int32) (amount : Nat → Int32) (mark : Nat → Int32) (place : Nat → Int32) (number : Nat → Int32) (paid : Nat → Int32) (blamed : Nat → Int32) (j : Nat) (g : Int32) (hlt : l.stackTraces = false) (hj : j < n) (hn : n ≤ 100) (hg : g = 97 ∨ g = 98 ∨ g = 99 ∨ g = 120) (hm0 : ¬ mark j = 45) : mX l yX2_grade cX2_grade 3 (some .int) 7 121 1 6 D (kTy k) [.ref (a 0), .int (nI j), .int g] (wMR k a rr (nI dy) (nI nv) rounds (kB ub) (nI nb) vrooms vis (nI nf) rooms tanks cows bst (nI n) farm amount mark place number paid blamed) (.inr "java/lang/IllegalStateException") := by
  refine mX.of (lv' := [(0, .ref (a 0)), (1, .int (nI j)), (2, .int g)]) (by decide) (Nat.le_of_ble_eq_true rfl) rfl ?_
  intro p e s m args below meth c E hr hlk hex hZ hA
  have L39 : kJ p l e (kRmc 7 121 1 6) s m args below meth c (gW D (va_A (wMR k a rr (nI dy) (nI nv) rounds (kB ub) (nI nb) vrooms vis (nI nf) rooms tanks cows bst (nI n) farm amount mark place number paid blamed) s.heap.size) s.heap) 3 0 0 (vx_MQ below (kXq (.inr "java/lang/IllegalStateException") D (wMR k a rr (nI dy) (nI nv) rounds (kB ub) (nI nb) vrooms vis (nI nf) rooms tanks cows bst (nI n) farm amount mark place number paid blamed) s.heap.size) (kXc (.inr "java/lang/IllegalStateException") D (wMR k a rr (nI dy) (nI nv) rounds (kB ub) (nI nb) vrooms vis (nI nf) rooms tanks cows bst (nI n) farm amount mark place number paid blamed) s.heap.size) args s 1 6 (va_A (wMR k a rr (nI dy) (nI nv) rounds (kB ub) (nI nb) vrooms vis (nI nf) rooms tanks cows bst (nI n) farm amount mark place number paid blamed) s.heap.size)) (wMR k a rr (nI dy) (nI nv) rounds (kB ub) (nI nb) vrooms vis (nI nf) rooms tanks cows bst (nI n) farm amount mark place number paid blamed) 39 [(0, .ref (a 0)), (1, .int (nI j)), (2, .int g)] [] := by
    refine k_aload_n E 0 rfl rfl dX2_grade_39 ?_
    refine k_get E inX2 0 rfl rfl 7 (by decide) q_99 rfl rfl dX2_grade_40 ?_
    refine k_getN E inX1 14 rfl rfl 3 (by decide) rfl (by decide +kernel) rfl rfl dX2_grade_43 ?_
    refine k_iload_n E 1 rfl rfl dX2_grade_46 ?_
    refine k_cald E (j := j) 17 1 rfl rfl rfl (by omega) (by decide) dX2_grade_47 ?_
    refine k_bipush E (v := 45) (by decide) dX2_grade_48 ?_
    refine k_icmp_eq E (tgt := 63) (by decide) dX2_grade_50 (fun c50 => absurd c50 hm0) (fun c50 => ?_)
    exact k_throw (cls := "java/lang/IllegalStateException") (text := "the sample has a grade") (names := ["java/lang/RuntimeException", "java/lang/Exception"]) (ic := 62) E hlt hlk hex hZ rfl rfl rfl (by decide +kernel) (by decide +kernel) q_225 q_9 (by decide +kernel) gx_IllegalStateException bx_IllegalStateException ox_IllegalStateException dX2_grade_53 dX2_grade_56 dX2_grade_57 dX2_grade_59 dX2_grade_62 (by decide) (Nat.le_of_ble_eq_true rfl) (by decide) (by decide) (by decide) (by decide)
  refine k_aload_n E 0 rfl rfl dX2_grade_0 ?_
  refine k_iload_n E 1 rfl rfl dX2_grade_1 ?_
  refine k_callRV [.int (nI j)] E (m_X2_requireSample l D k a rr dy nv rounds ub nb vrooms vis nf rooms tanks cows bst n farm amount mark place number paid blamed j (by first | assumption | omega) (by first | assumption | omega)) cf_X2_requireSample q_504 [0, 1, 2, 3, 4, 5, 6, 7, 8, 9, 10, 11, 12, 13, 14, 15, 16, 17, 18, 19, 20, 21] rfl 0 rfl rfl rfl rfl ⟨by decide, by decide⟩ (Nat.le_of_ble_eq_true rfl) ⟨by decide, by decide⟩ dX2_grade_2 ?_
  refine k_steq (st' := []) rfl ?_
  refine k_iload_n E 2 rfl rfl dX2_grade_5 ?_
  refine k_bipush E (v := 97) (by decide) dX2_grade_6 ?_
  refine k_icmp_eq E (tgt := 39) (by decide) dX2_grade_8 (fun c8 => ?_) (fun c8 => ?_)
  · skip
    refine k_lv [0, 1, 2] rfl ?_
    exact L39  
  · skip
    refine k_iload_n E 2 rfl rfl dX2_grade_11 ?_
    refine k_bipush E (v := 98) (by decide) dX2_grade_12 ?_
    refine k_icmp_eq E (tgt := 39) (by decide) dX2_grade_14 (fun c14 => ?_) (fun c14 => ?_)
    · skip
      refine k_lv [0, 1, 2] rfl ?_
      exact L39  
    · skip
      refine k_iload_n E 2 rfl rfl dX2_grade_17 ?_
      refine k_bipush E (v := 99) (by decide) dX2_grade_18 ?_
      refine k_icmp_eq E (tgt := 39) (by decide) dX2_grade_20 (fun c20 => ?_) (fun c20 => ?_)
      · skip
        refine k_lv [0, 1, 2] rfl ?_
        exact L39  
      · skip
        refine k_iload_n E 2 rfl rfl dX2_grade_23 ?_
        refine k_bipush E (v := 120) (by decide) dX2_grade_24 ?_
        refine k_icmp_eq E (tgt := 39) (by decide) dX2_grade_26 (fun c26 => ?_) (fun c26 => absurd c26 (fun q => by rcases hg with w | w | w | w <;> first | exact c8 w | exact c14 w | exact c20 w | exact q w))
        refine k_lv [0, 1, 2] rfl ?_
        exact L39  
set_option maxRecDepth 100000 in
set_option maxHeartbeats 4000000 in
theorem m_X2_stateOf (l : Launch) (D : va_G) (k : Nat → ClassId) (a : Nat → Nat) (rr : Nat → Nat) (dy : Nat) (nv : Nat) (rounds : Int32) (ub : Bool) (nb : Nat) (vrooms : Nat → Int32) (vis : Nat → Int32) (nf : Nat) (rooms : Nat → Int32) (tanks : Nat → Int32) (cows : Nat → Int32) (bst : Nat → Nat → Int32) (n : Nat) (farm : Nat → Int32) (amount : Nat → Int32) (mark : Nat → Int32) (place : Nat → Int32) (number : Nat → Int32) (paid : Nat → Int32) (blamed : Nat → Int32) (j : Nat) (hj : j < nb) (hnb : nb ≤ 20) (hn : n ≤ 100) : mR l yX2_stateOf cX2_stateOf 2 (some .char) 7 121 D (kTy k) [.ref (a 0), .int (nI j)] (wMR k a rr (nI dy) (nI nv) rounds (kB ub) (nI nb) vrooms vis (nI nf) rooms tanks cows bst (nI n) farm amount mark place number paid blamed) (some (.int (stO mark place number amount (nI j) n))) := by
  refine mR.of (lv' := [(0, .ref (a 0)), (1, .int (nI j))]) (by decide) (Nat.le_of_ble_eq_true rfl) rfl ?_
  intro p e s m args below meth c E hr hlk
  refine k_aload_n E 0 rfl rfl dX2_stateOf_0 ?_
  refine k_iload_n E 1 rfl rfl dX2_stateOf_1 ?_
  refine k_callRV [.int (nI j)] E (m_X2_requireBatch l D k a rr dy nv rounds ub nb vrooms vis nf rooms tanks cows bst n farm amount mark place number paid blamed j (by first | assumption | omega) (by first | assumption | omega)) cf_X2_requireBatch q_543 [0, 1, 2, 3, 4, 5, 6, 7, 8, 9, 10, 11, 12, 13, 14, 15, 16, 17, 18, 19, 20, 21] rfl 0 rfl rfl rfl rfl ⟨by decide, by decide⟩ (Nat.le_of_ble_eq_true rfl) ⟨by decide, by decide⟩ dX2_stateOf_2 ?_
  refine k_steq (st' := []) rfl ?_
  refine k_aload_n E 0 rfl rfl dX2_stateOf_5 ?_
  refine k_get E inX2 0 rfl rfl 7 (by decide) q_99 rfl rfl dX2_stateOf_6 ?_
  refine k_iload_n E 1 rfl rfl dX2_stateOf_9 ?_
  refine k_callRVN [.int (nI j)] E (m_X1_isSpoilt l D k (a 8) (a 9) (a 10) (a 11) (a 12) (a 13) (a 14) (a 15) n farm amount mark place number paid blamed (nI j) (by first | assumption | omega)) cf_X1_isSpoilt rfl (by decide +kernel) [14, 15, 16, 17, 18, 19, 20, 21] rfl 14 rfl rfl rfl rfl ⟨by decide, by decide⟩ (Nat.le_of_ble_eq_true rfl) ⟨by decide, by decide⟩ dX2_stateOf_10 ?_
  refine k_steq (st' := [.int (kB (decide (0 < spl mark place number amount (nI j) n)))]) rfl ?_
  refine k_if_eq E (tgt := 19) (by decide) dX2_stateOf_13 (fun c13 => ?_) (fun c13 => ?_)
  · skip
    have c13 := of_decide_eq_false (kB_f c13)
    refine k_aload_n E 0 rfl rfl dX2_stateOf_19 ?_
    refine k_get E inX2 0 rfl rfl 7 (by decide) q_99 rfl rfl dX2_stateOf_20 ?_
    refine k_iload_n E 1 rfl rfl dX2_stateOf_23 ?_
    refine k_callRVN [.int (nI j)] E (m_X1_isGraded l D k (a 8) (a 9) (a 10) (a 11) (a 12) (a 13) (a 14) (a 15) n farm amount mark place number paid blamed (nI j) (by first | assumption | omega)) cf_X1_isGraded rfl (by decide +kernel) [14, 15, 16, 17, 18, 19, 20, 21] rfl 14 rfl rfl rfl rfl ⟨by decide, by decide⟩ (Nat.le_of_ble_eq_true rfl) ⟨by decide, by decide⟩ dX2_stateOf_24 ?_
    refine k_steq (st' := [.int (kB (grB mark place number (nI j) n))]) rfl ?_
    refine k_if_eq E (tgt := 35) (by decide) dX2_stateOf_27 (fun c27 => ?_) (fun c27 => ?_)
    · skip
      have c27 := kB_f c27
      refine k_bipush E (v := 119) (by decide) dX2_stateOf_35 ?_
      exact kr_zret E hr hlk rfl (by simp [stO, *]) dX2_stateOf_37
    · skip
      have c27 := kB_t c27
      refine k_bipush E (v := 103) (by decide) dX2_stateOf_30 ?_
      refine k_goto E (tgt := 37) (by decide) dX2_stateOf_32 ?_
      exact kr_zret E hr hlk rfl (by simp [stO, *]) dX2_stateOf_37
  · skip
    have c13 := of_decide_eq_true (kB_t c13)
    refine k_bipush E (v := 120) (by decide) dX2_stateOf_16 ?_
    exact kr_zret E hr hlk rfl (by simp [stO, *]) dX2_stateOf_18
set_option maxRecDepth 100000 in
set_option maxHeartbeats 4000000 in
theorem m_X2_stateOf_i (l : Launch) (D : va_G) (k : Nat → ClassId) (a : Nat → Nat) (rr : Nat → Nat) (dy : Nat) (nv : Nat) (rounds : Int32) (ub : Bool) (nb : Nat) (vrooms : Nat → Int32) (vis : Nat → Int32) (nf : Nat) (rooms : Nat → Int32) (tanks : Nat → Int32) (cows : Nat → Int32) (bst : Nat → Nat → Int32) (n : Nat) (farm : Nat → Int32) (amount : Nat → Int32) (mark : Nat → Int32) (place : Nat → Int32) (number : Nat → Int32) (paid : Nat → Int32) (blamed : Nat → Int32) (fa : Int32) (hlt : l.stackTraces = false) (hb : fa < 0 ∨ nI nb ≤ fa) : mX l yX2_stateOf cX2_stateOf 2 (some .char) 7 121 1 6 D (kTy k) [.ref (a 0), .int fa] (wMR k a rr (nI dy) (nI nv) rounds (kB ub) (nI nb) vrooms vis (nI nf) rooms tanks cows bst (nI n) farm amount mark place number paid blamed) (.inr "java/lang/IndexOutOfBoundsException") := by
  refine mX.of (lv' := [(0, .ref (a 0)), (1, .int fa)]) (by decide) (Nat.le_of_ble_eq_true rfl) rfl ?_
  intro p e s m args below meth c E hr hlk hex hZ hA
  refine k_aload_n E 0 rfl rfl dX2_stateOf_0 ?_
  refine k_iload_n E 1 rfl rfl dX2_stateOf_1 ?_
  refine k_callXV [.int fa] E hA hZ (m_X2_requireBatch_b l D k a rr dy nv rounds ub nb vrooms vis nf rooms tanks cows bst n farm amount mark place number paid blamed fa hlt (by first | assumption | omega)) cf_X2_requireBatch q_543 [] [] rfl 0 rfl rfl rfl rfl ⟨by decide, by decide⟩ (Nat.le_of_ble_eq_true rfl) ⟨by decide, by decide⟩ dX2_stateOf_2 (fun v1 W1 ho => by cases ho) (fun X1 ho => ?_)
  cases ho
  exact k_xout hlk hex rfl rfl (by decide) (by decide)
set_option maxRecDepth 100000 in
set_option maxHeartbeats 4000000 in
theorem m_X2_share (l : Launch) (D : va_G) (k : Nat → ClassId) (a : Nat → Nat) (rr : Nat → Nat) (dy : Nat) (nv : Nat) (rounds : Int32) (ub : Bool) (nb : Nat) (vrooms : Nat → Int32) (vis : Nat → Int32) (nf : Nat) (rooms : Nat → Int32) (tanks : Nat → Int32) (cows : Nat → Int32) (bst : Nat → Nat → Int32) (n : Nat) (farm : Nat → Int32) (amount : Nat → Int32) (mark : Nat → Int32) (place : Nat → Int32) (number : Nat → Int32) (paid : Nat → Int32) (blamed : Nat → Int32) (j : Nat) (ix : Int32) (hj : j < nb) (hnb : nb ≤ 20) (hn : n ≤ 100) (h0 : 0 ≤ sh (cIn place number 98 (nI j)) ix n) : mR l yX2_share cX2_share 4 (some .int) 7 121 D (kTy k) [.ref (a 0), .int (nI j), .int ix] (wMR k a rr (nI dy) (nI nv) rounds (kB ub) (nI nb) vrooms vis (nI nf) rooms tanks cows bst (nI n) farm amount mark place number paid blamed) (some (.int (sh (cIn place number 98 (nI j)) ix n))) := by
  refine mR.of (lv' := [(0, .ref (a 0)), (1, .int (nI j)), (2, .int ix)]) (by decide) (Nat.le_of_ble_eq_true rfl) rfl ?_
  intro p e s m args below meth c E hr hlk
  refine k_aload_n E 0 rfl rfl dX2_share_0 ?_
  refine k_iload_n E 1 rfl rfl dX2_share_1 ?_
  refine k_callRV [.int (nI j)] E (m_X2_requireBatch l D k a rr dy nv rounds ub nb vrooms vis nf rooms tanks cows bst n farm amount mark place number paid blamed j (by first | assumption | omega) (by first | assumption | omega)) cf_X2_requireBatch q_543 [0, 1, 2, 3, 4, 5, 6, 7, 8, 9, 10, 11, 12, 13, 14, 15, 16, 17, 18, 19, 20, 21] rfl 0 rfl rfl rfl rfl ⟨by decide, by decide⟩ (Nat.le_of_ble_eq_true rfl) ⟨by decide, by decide⟩ dX2_share_2 ?_
  refine k_steq (st' := []) rfl ?_
  refine k_aload_n E 0 rfl rfl dX2_share_5 ?_
  refine k_get E inX2 0 rfl rfl 7 (by decide) q_99 rfl rfl dX2_share_6 ?_
  refine k_iload_n E 1 rfl rfl dX2_share_9 ?_
  refine k_iload_n E 2 rfl rfl dX2_share_10 ?_
  refine k_callRVN [.int (nI j), .int ix] E (m_X1_shareAt l D k (a 8) (a 9) (a 10) (a 11) (a 12) (a 13) (a 14) (a 15) n farm amount mark place number paid blamed (nI j) ix (by first | assumption | omega)) cf_X1_shareAt rfl (by decide +kernel) [14, 15, 16, 17, 18, 19, 20, 21] rfl 14 rfl rfl rfl rfl ⟨by decide, by decide⟩ (Nat.le_of_ble_eq_true rfl) ⟨by decide, by decide⟩ dX2_share_11 ?_
  refine k_steq (st' := [.int (sh (cIn place number 98 (nI j)) ix n)]) rfl ?_
  refine k_istore_n (lv' := [(3, .int (sh (cIn place number 98 (nI j)) ix n)), (0, .ref (a 0)), (1, .int (nI j)), (2, .int ix)]) E rfl (by decide) rfl dX2_share_14 ?_
  refine k_iload_n E 0 rfl rfl dX2_share_15 ?_
  refine k_if_ge E (tgt := 29) (by decide) dX2_share_16 (fun c16 => ?_) (fun c16 => absurd c16 (not_not_intro h0))
  refine k_iload_n E 0 rfl rfl dX2_share_29 ?_
  exact kr_iret E hr hlk rfl dX2_share_30
set_option maxRecDepth 100000 in
set_option maxHeartbeats 4000000 in
theorem m_X2_share_i (l : Launch) (D : va_G) (k : Nat → ClassId) (a : Nat → Nat) (rr : Nat → Nat) (dy : Nat) (nv : Nat) (rounds : Int32) (ub : Bool) (nb : Nat) (vrooms : Nat → Int32) (vis : Nat → Int32) (nf : Nat) (rooms : Nat → Int32) (tanks : Nat → Int32) (cows : Nat → Int32) (bst : Nat → Nat → Int32) (n : Nat) (farm : Nat → Int32) (amount : Nat → Int32) (mark : Nat → Int32) (place : Nat → Int32) (number : Nat → Int32) (paid : Nat → Int32) (blamed : Nat → Int32) (fa : Int32) (ix : Int32) (hlt : l.stackTraces = false) (hb : fa < 0 ∨ nI nb ≤ fa) : mX l yX2_share cX2_share 4 (some .int) 7 121 1 6 D (kTy k) [.ref (a 0), .int fa, .int ix] (wMR k a rr (nI dy) (nI nv) rounds (kB ub) (nI nb) vrooms vis (nI nf) rooms tanks cows bst (nI n) farm amount mark place number paid blamed) (.inr "java/lang/IndexOutOfBoundsException") := by
  refine mX.of (lv' := [(0, .ref (a 0)), (1, .int fa), (2, .int ix)]) (by decide) (Nat.le_of_ble_eq_true rfl) rfl ?_
  intro p e s m args below meth c E hr hlk hex hZ hA
  refine k_aload_n E 0 rfl rfl dX2_share_0 ?_
  refine k_iload_n E 1 rfl rfl dX2_share_1 ?_
  refine k_callXV [.int fa] E hA hZ (m_X2_requireBatch_b l D k a rr dy nv rounds ub nb vrooms vis nf rooms tanks cows bst n farm amount mark place number paid blamed fa hlt (by first | assumption | omega)) cf_X2_requireBatch q_543 [] [] rfl 0 rfl rfl rfl rfl ⟨by decide, by decide⟩ (Nat.le_of_ble_eq_true rfl) ⟨by decide, by decide⟩ dX2_share_2 (fun v1 W1 ho => by cases ho) (fun X1 ho => ?_)
  cases ho
  exact k_xout hlk hex rfl rfl (by decide) (by decide)
set_option maxRecDepth 100000 in
set_option maxHeartbeats 4000000 in
theorem m_X2_requireGradedBatch (l : Launch) (D : va_G) (k : Nat → ClassId) (a : Nat → Nat) (rr : Nat → Nat) (dy : Nat) (nv : Nat) (rounds : Int32) (ub : Bool) (nb : Nat) (vrooms : Nat → Int32) (vis : Nat → Int32) (nf : Nat) (rooms : Nat → Int32) (tanks : Nat → Int32) (cows : Nat → Int32) (bst : Nat → Nat → Int32) (n : Nat) (farm : Nat → Int32) (amount : Nat → Int32) (mark : Nat → Int32) (place : Nat → Int32) (number : Nat → Int32) (paid : Nat → Int32) (blamed : Nat → Int32) (j : Nat) (hj : j < nb) (hnb : nb ≤ 20) (hn : n ≤ 100) (hg : grB mark place number (nI j) n = true) : mR l yX2_requireGradedBatch cX2_requireGradedBatch 2 none 7 121 D (kTy k) [.ref (a 0), .int (nI j)] (wMR k a rr (nI dy) (nI nv) rounds (kB ub) (nI nb) vrooms vis (nI nf) rooms tanks cows bst (nI n) farm amount mark place number paid blamed) none := by
  refine mR.of (lv' := [(0, .ref (a 0)), (1, .int (nI j))]) (by decide) (Nat.le_of_ble_eq_true rfl) rfl ?_
  intro p e s m args below meth c E hr hlk
  refine k_aload_n E 0 rfl rfl dX2_requireGradedBatch_0 ?_
  refine k_iload_n E 1 rfl rfl dX2_requireGradedBatch_1 ?_
  refine k_callRV [.int (nI j)] E (m_X2_requireBatch l D k a rr dy nv rounds ub nb vrooms vis nf rooms tanks cows bst n farm amount mark place number paid blamed j (by first | assumption | omega) (by first | assumption | omega)) cf_X2_requireBatch q_543 [0, 1, 2, 3, 4, 5, 6, 7, 8, 9, 10, 11, 12, 13, 14, 15, 16, 17, 18, 19, 20, 21] rfl 0 rfl rfl rfl rfl ⟨by decide, by decide⟩ (Nat.le_of_ble_eq_true rfl) ⟨by decide, by decide⟩ dX2_requireGradedBatch_2 ?_
  refine k_steq (st' := []) rfl ?_
  refine k_aload_n E 0 rfl rfl dX2_requireGradedBatch_5 ?_
  refine k_get E inX2 0 rfl rfl 7 (by decide) q_99 rfl rfl dX2_requireGradedBatch_6 ?_
  refine k_iload_n E 1 rfl rfl dX2_requireGradedBatch_9 ?_
  refine k_callRVN [.int (nI j)] E (m_X1_isGraded l D k (a 8) (a 9) (a 10) (a 11) (a 12) (a 13) (a 14) (a 15) n farm amount mark place number paid blamed (nI j) (by first | assumption | omega)) cf_X1_isGraded rfl (by decide +kernel) [14, 15, 16, 17, 18, 19, 20, 21] rfl 14 rfl rfl rfl rfl ⟨by decide, by decide⟩ (Nat.le_of_ble_eq_true rfl) ⟨by decide, by decide⟩ dX2_requireGradedBatch_10 ?_
  refine k_steq (st' := [.int (kB (grB mark place number (nI j) n))]) rfl ?_
  refine k_if_ne E (tgt := 26) (by decide) dX2_requireGradedBatch_13 (fun c13 => ?_) (fun c13 => absurd (kB_f c13) (by rw [hg]; decide))
  have c13 := kB_t c13
  exact kr_vret E hr hlk rfl dX2_requireGradedBatch_26
set_option maxRecDepth 100000 in
set_option maxHeartbeats 4000000 in
theorem m_X2_requireGradedBatch_b (l : Launch) (D : va_G) (k : Nat → ClassId) (a : Nat → Nat) (rr : Nat → Nat) (dy : Nat) (nv : Nat) (rounds : Int32) (ub : Bool) (nb : Nat) (vrooms : Nat → Int32) (vis : Nat → Int32) (nf : Nat) (rooms : Nat → Int32) (tanks : Nat → Int32) (cows : Nat → Int32) (bst : Nat → Nat → Int32) (n : Nat) (farm : Nat → Int32) (amount : Nat → Int32) (mark : Nat → Int32) (place : Nat → Int32) (number : Nat → Int32) (paid : Nat → Int32) (blamed : Nat → Int32) (fa : Int32) (hlt : l.stackTraces = false) (hb : fa < 0 ∨ nI nb ≤ fa) : mX l yX2_requireGradedBatch cX2_requireGradedBatch 2 none 7 121 1 6 D (kTy k) [.ref (a 0), .int fa] (wMR k a rr (nI dy) (nI nv) rounds (kB ub) (nI nb) vrooms vis (nI nf) rooms tanks cows bst (nI n) farm amount mark place number paid blamed) (.inr "java/lang/IndexOutOfBoundsException") := by
  refine mX.of (lv' := [(0, .ref (a 0)), (1, .int fa)]) (by decide) (Nat.le_of_ble_eq_true rfl) rfl ?_
  intro p e s m args below meth c E hr hlk hex hZ hA
  refine k_aload_n E 0 rfl rfl dX2_requireGradedBatch_0 ?_
  refine k_iload_n E 1 rfl rfl dX2_requireGradedBatch_1 ?_
  refine k_callXV [.int fa] E hA hZ (m_X2_requireBatch_b l D k a rr dy nv rounds ub nb vrooms vis nf rooms tanks cows bst n farm amount mark place number paid blamed fa hlt (by first | assumption | omega)) cf_X2_requireBatch q_543 [] [] rfl 0 rfl rfl rfl rfl ⟨by decide, by decide⟩ (Nat.le_of_ble_eq_true rfl) ⟨by decide, by decide⟩ dX2_requireGradedBatch_2 (fun v1 W1 ho => by cases ho) (fun X1 ho => ?_)
  cases ho
  exact k_xout hlk hex rfl rfl (by decide) (by decide)
set_option maxRecDepth 100000 in
set_option maxHeartbeats 4000000 in
theorem m_X2_requireGradedBatch_u (l : Launch) (D : va_G) (k : Nat → ClassId) (a : Nat → Nat) (rr : Nat → Nat) (dy : Nat) (nv : Nat) (rounds : Int32) (ub : Bool) (nb : Nat) (vrooms : Nat → Int32) (vis : Nat → Int32) (nf : Nat) (rooms : Nat → Int32) (tanks : Nat → Int32) (cows : Nat → Int32) (bst : Nat → Nat → Int32) (n : Nat) (farm : Nat → Int32) (amount : Nat → Int32) (mark : Nat → Int32) (place : Nat → Int32) (number : Nat → Int32) (paid : Nat → Int32) (blamed : Nat → Int32) (j : Nat) (hlt : l.stackTraces = false) (hj : j < nb) (hnb : nb ≤ 20) (hn : n ≤ 100) (hg : grB mark place number (nI j) n = false) : mX l yX2_requireGradedBatch cX2_requireGradedBatch 2 none 7 121 1 6 D (kTy k) [.ref (a 0), .int (nI j)] (wMR k a rr (nI dy) (nI nv) rounds (kB ub) (nI nb) vrooms vis (nI nf) rooms tanks cows bst (nI n) farm amount mark place number paid blamed) (.inr "java/lang/UnsupportedOperationException") := by
  refine mX.of (lv' := [(0, .ref (a 0)), (1, .int (nI j))]) (by decide) (Nat.le_of_ble_eq_true rfl) rfl ?_
  intro p e s m args below meth c E hr hlk hex hZ hA
  refine k_aload_n E 0 rfl rfl dX2_requireGradedBatch_0 ?_
  refine k_iload_n E 1 rfl rfl dX2_requireGradedBatch_1 ?_
  refine k_callRV [.int (nI j)] E (m_X2_requireBatch l D k a rr dy nv rounds ub nb vrooms vis nf rooms tanks cows bst n farm amount mark place number paid blamed j (by first | assumption | omega) (by first | assumption | omega)) cf_X2_requireBatch q_543 [0, 1, 2, 3, 4, 5, 6, 7, 8, 9, 10, 11, 12, 13, 14, 15, 16, 17, 18, 19, 20, 21] rfl 0 rfl rfl rfl rfl ⟨by decide, by decide⟩ (Nat.le_of_ble_eq_true rfl) ⟨by decide, by decide⟩ dX2_requireGradedBatch_2 ?_
  refine k_steq (st' := []) rfl ?_
  refine k_aload_n E 0 rfl rfl dX2_requireGradedBatch_5 ?_
  refine k_get E inX2 0 rfl rfl 7 (by decide) q_99 rfl rfl dX2_requireGradedBatch_6 ?_
  refine k_iload_n E 1 rfl rfl dX2_requireGradedBatch_9 ?_
  refine k_callRVN [.int (nI j)] E (m_X1_isGraded l D k (a 8) (a 9) (a 10) (a 11) (a 12) (a 13) (a 14) (a 15) n farm amount mark place number paid blamed (nI j) (by first | assumption | omega)) cf_X1_isGraded rfl (by decide +kernel) [14, 15, 16, 17, 18, 19, 20, 21] rfl 14 rfl rfl rfl rfl ⟨by decide, by decide⟩ (Nat.le_of_ble_eq_true rfl) ⟨by decide, by decide⟩ dX2_requireGradedBatch_10 ?_
  refine k_steq (st' := [.int (kB (grB mark place number (nI j) n))]) rfl ?_
  refine k_if_ne E (tgt := 26) (by decide) dX2_requireGradedBatch_13 (fun c13 => absurd (kB_t c13) (by rw [hg]; decide)) (fun c13 => ?_)
  have c13 := kB_f c13
  exact k_throw (cls := "java/lang/UnsupportedOperationException") (text := "a sample of the batch has no grade") (names := ["java/lang/RuntimeException", "java/lang/Exception"]) (ic := 128) E hlt hlk hex hZ rfl rfl rfl (by decide +kernel) (by decide +kernel) q_400 q_14 (by decide +kernel) gx_UnsupportedOperationException bx_UnsupportedOperationException ox_UnsupportedOperationException dX2_requireGradedBatch_16 dX2_requireGradedBatch_19 dX2_requireGradedBatch_20 dX2_requireGradedBatch_22 dX2_requireGradedBatch_25 (by decide) (Nat.le_of_ble_eq_true rfl) (by decide) (by decide) (by decide) (by decide)
set_option maxRecDepth 100000 in
set_option maxHeartbeats 4000000 in
theorem m_X2_worth (l : Launch) (D : va_G) (k : Nat → ClassId) (a : Nat → Nat) (rr : Nat → Nat) (dy : Nat) (nv : Nat) (rounds : Int32) (ub : Bool) (nb : Nat) (vrooms : Nat → Int32) (vis : Nat → Int32) (nf : Nat) (rooms : Nat → Int32) (tanks : Nat → Int32) (cows : Nat → Int32) (bst : Nat → Nat → Int32) (n : Nat) (farm : Nat → Int32) (amount : Nat → Int32) (mark : Nat → Int32) (place : Nat → Int32) (number : Nat → Int32) (paid : Nat → Int32) (blamed : Nat → Int32) (j : Nat) (hj : j < nb) (hnb : nb ≤ 20) (hn : n ≤ 100) (hg : grB mark place number (nI j) n = true) : mR l yX2_worth cX2_worth 2 (some .int) 8 142 D (kTy k) [.ref (a 0), .int (nI j)] (wMR k a rr (nI dy) (nI nv) rounds (kB ub) (nI nb) vrooms vis (nI nf) rooms tanks cows bst (nI n) farm amount mark place number paid blamed) (some (.int (payB mark place number amount (nI j) n))) := by
  refine mR.of (lv' := [(0, .ref (a 0)), (1, .int (nI j))]) (by decide) (Nat.le_of_ble_eq_true rfl) rfl ?_
  intro p e s m args below meth c E hr hlk
  refine k_aload_n E 0 rfl rfl dX2_worth_0 ?_
  refine k_iload_n E 1 rfl rfl dX2_worth_1 ?_
  refine k_callRV [.int (nI j)] E (m_X2_requireGradedBatch l D k a rr dy nv rounds ub nb vrooms vis nf rooms tanks cows bst n farm amount mark place number paid blamed j (by first | assumption | omega) (by first | assumption | omega) (by first | assumption | omega) (by first | assumption | omega)) cf_X2_requireGradedBatch q_572 [0, 1, 2, 3, 4, 5, 6, 7, 8, 9, 10, 11, 12, 13, 14, 15, 16, 17, 18, 19, 20, 21] rfl 0 rfl rfl rfl rfl ⟨by decide, by decide⟩ (Nat.le_of_ble_eq_true rfl) ⟨by decide, by decide⟩ dX2_worth_2 ?_
  refine k_steq (st' := []) rfl ?_
  refine k_aload_n E 0 rfl rfl dX2_worth_5 ?_
  refine k_get E inX2 0 rfl rfl 7 (by decide) q_99 rfl rfl dX2_worth_6 ?_
  refine k_iload_n E 1 rfl rfl dX2_worth_9 ?_
  refine k_callRVN [.int (nI j)] E (m_X1_payOfAll l D k (a 8) (a 9) (a 10) (a 11) (a 12) (a 13) (a 14) (a 15) n farm amount mark place number paid blamed (nI j) (by first | assumption | omega)) cf_X1_payOfAll rfl (by decide +kernel) [14, 15, 16, 17, 18, 19, 20, 21] rfl 14 rfl rfl rfl rfl ⟨by decide, by decide⟩ (Nat.le_of_ble_eq_true rfl) ⟨by decide, by decide⟩ dX2_worth_10 ?_
  refine k_steq (st' := [.int (payB mark place number amount (nI j) n)]) rfl ?_
  exact kr_iret E hr hlk rfl dX2_worth_13
set_option maxRecDepth 100000 in
set_option maxHeartbeats 4000000 in
theorem m_X2_worth_i (l : Launch) (D : va_G) (k : Nat → ClassId) (a : Nat → Nat) (rr : Nat → Nat) (dy : Nat) (nv : Nat) (rounds : Int32) (ub : Bool) (nb : Nat) (vrooms : Nat → Int32) (vis : Nat → Int32) (nf : Nat) (rooms : Nat → Int32) (tanks : Nat → Int32) (cows : Nat → Int32) (bst : Nat → Nat → Int32) (n : Nat) (farm : Nat → Int32) (amount : Nat → Int32) (mark : Nat → Int32) (place : Nat → Int32) (number : Nat → Int32) (paid : Nat → Int32) (blamed : Nat → Int32) (fa : Int32) (hlt : l.stackTraces = false) (hb : fa < 0 ∨ nI nb ≤ fa) : mX l yX2_worth cX2_worth 2 (some .int) 8 142 1 6 D (kTy k) [.ref (a 0), .int fa] (wMR k a rr (nI dy) (nI nv) rounds (kB ub) (nI nb) vrooms vis (nI nf) rooms tanks cows bst (nI n) farm amount mark place number paid blamed) (.inr "java/lang/IndexOutOfBoundsException") := by
  refine mX.of (lv' := [(0, .ref (a 0)), (1, .int fa)]) (by decide) (Nat.le_of_ble_eq_true rfl) rfl ?_
  intro p e s m args below meth c E hr hlk hex hZ hA
  refine k_aload_n E 0 rfl rfl dX2_worth_0 ?_
  refine k_iload_n E 1 rfl rfl dX2_worth_1 ?_
  refine k_callXV [.int fa] E hA hZ (m_X2_requireGradedBatch_b l D k a rr dy nv rounds ub nb vrooms vis nf rooms tanks cows bst n farm amount mark place number paid blamed fa hlt (by first | assumption | omega)) cf_X2_requireGradedBatch q_572 [] [] rfl 0 rfl rfl rfl rfl ⟨by decide, by decide⟩ (Nat.le_of_ble_eq_true rfl) ⟨by decide, by decide⟩ dX2_worth_2 (fun v1 W1 ho => by cases ho) (fun X1 ho => ?_)
  cases ho
  exact k_xout hlk hex rfl rfl (by decide) (by decide)
set_option maxRecDepth 100000 in
set_option maxHeartbeats 4000000 in
theorem m_X2_worth_u (l : Launch) (D : va_G) (k : Nat → ClassId) (a : Nat → Nat) (rr : Nat → Nat) (dy : Nat) (nv : Nat) (rounds : Int32) (ub : Bool) (nb : Nat) (vrooms : Nat → Int32) (vis : Nat → Int32) (nf : Nat) (rooms : Nat → Int32) (tanks : Nat → Int32) (cows : Nat → Int32) (bst : Nat → Nat → Int32) (n : Nat) (farm : Nat → Int32) (amount : Nat → Int32) (mark : Nat → Int32) (place : Nat → Int32) (number : Nat → Int32) (paid : Nat → Int32) (blamed : Nat → Int32) (j : Nat) (hlt : l.stackTraces = false) (hj : j < nb) (hnb : nb ≤ 20) (hn : n ≤ 100) (hg : grB mark place number (nI j) n = false) : mX l yX2_worth cX2_worth 2 (some .int) 8 142 1 6 D (kTy k) [.ref (a 0), .int (nI j)] (wMR k a rr (nI dy) (nI nv) rounds (kB ub) (nI nb) vrooms vis (nI nf) rooms tanks cows bst (nI n) farm amount mark place number paid blamed) (.inr "java/lang/UnsupportedOperationException") := by
  refine mX.of (lv' := [(0, .ref (a 0)), (1, .int (nI j))]) (by decide) (Nat.le_of_ble_eq_true rfl) rfl ?_
  intro p e s m args below meth c E hr hlk hex hZ hA
  refine k_aload_n E 0 rfl rfl dX2_worth_0 ?_
  refine k_iload_n E 1 rfl rfl dX2_worth_1 ?_
  refine k_callXV [.int (nI j)] E hA hZ (m_X2_requireGradedBatch_u l D k a rr dy nv rounds ub nb vrooms vis nf rooms tanks cows bst n farm amount mark place number paid blamed j hlt (by first | assumption | omega) (by first | assumption | omega) (by first | assumption | omega) (by first | assumption | omega)) cf_X2_requireGradedBatch q_572 [] [] rfl 0 rfl rfl rfl rfl ⟨by decide, by decide⟩ (Nat.le_of_ble_eq_true rfl) ⟨by decide, by decide⟩ dX2_worth_2 (fun v1 W1 ho => by cases ho) (fun X1 ho => ?_)
  cases ho
  exact k_xout hlk hex rfl rfl (by decide) (by decide)
set_option maxRecDepth 100000 in
set_option maxHeartbeats 4000000 in
theorem m_X2_loss (l : Launch) (D : va_G) (k : Nat → ClassId) (a : Nat → Nat) (rr : Nat → Nat) (dy : Nat) (nv : Nat) (rounds : Int32) (ub : Bool) (nb : Nat) (vrooms : Nat → Int32) (vis : Nat → Int32) (nf : Nat) (rooms : Nat → Int32) (tanks : Nat → Int32) (cows : Nat → Int32) (bst : Nat → Nat → Int32) (n : Nat) (farm : Nat → Int32) (amount : Nat → Int32) (mark : Nat → Int32) (place : Nat → Int32) (number : Nat → Int32) (paid : Nat → Int32) (blamed : Nat → Int32) (j : Nat) (hj : j < nb) (hnb : nb ≤ 20) (hn : n ≤ 100) (hg : grB mark place number (nI j) n = true) : mR l yX2_loss cX2_loss 2 (some .int) 8 142 D (kTy k) [.ref (a 0), .int (nI j)] (wMR k a rr (nI dy) (nI nv) rounds (kB ub) (nI nb) vrooms vis (nI nf) rooms tanks cows bst (nI n) farm amount mark place number paid blamed) (some (.int (lossB mark place number amount (nI j) n))) := by
  refine mR.of (lv' := [(0, .ref (a 0)), (1, .int (nI j))]) (by decide) (Nat.le_of_ble_eq_true rfl) rfl ?_
  intro p e s m args below meth c E hr hlk
  refine k_aload_n E 0 rfl rfl dX2_loss_0 ?_
  refine k_iload_n E 1 rfl rfl dX2_loss_1 ?_
  refine k_callRV [.int (nI j)] E (m_X2_requireGradedBatch l D k a rr dy nv rounds ub nb vrooms vis nf rooms tanks cows bst n farm amount mark place number paid blamed j (by first | assumption | omega) (by first | assumption | omega) (by first | assumption | omega) (by first | assumption | omega)) cf_X2_requireGradedBatch q_572 [0, 1, 2, 3, 4, 5, 6, 7, 8, 9, 10, 11, 12, 13, 14, 15, 16, 17, 18, 19, 20, 21] rfl 0 rfl rfl rfl rfl ⟨by decide, by decide⟩ (Nat.le_of_ble_eq_true rfl) ⟨by decide, by decide⟩ dX2_loss_2 ?_
  refine k_steq (st' := []) rfl ?_
  refine k_aload_n E 0 rfl rfl dX2_loss_5 ?_
  refine k_get E inX2 0 rfl rfl 7 (by decide) q_99 rfl rfl dX2_loss_6 ?_
  refine k_iload_n E 1 rfl rfl dX2_loss_9 ?_
  refine k_callRVN [.int (nI j)] E (m_X1_lossOf l D k (a 8) (a 9) (a 10) (a 11) (a 12) (a 13) (a 14) (a 15) n farm amount mark place number paid blamed (nI j) (by first | assumption | omega)) cf_X1_lossOf rfl (by decide +kernel) [14, 15, 16, 17, 18, 19, 20, 21] rfl 14 rfl rfl rfl rfl ⟨by decide, by decide⟩ (Nat.le_of_ble_eq_true rfl) ⟨by decide, by decide⟩ dX2_loss_10 ?_
  refine k_steq (st' := [.int (lossB mark place number amount (nI j) n)]) rfl ?_
  exact kr_iret E hr hlk rfl dX2_loss_13
set_option maxRecDepth 100000 in
set_option maxHeartbeats 4000000 in
theorem m_X2_loss_i (l : Launch) (D : va_G) (k : Nat → ClassId) (a : Nat → Nat) (rr : Nat → Nat) (dy : Nat) (nv : Nat) (rounds : Int32) (ub : Bool) (nb : Nat) (vrooms : Nat → Int32) (vis : Nat → Int32) (nf : Nat) (rooms : Nat → Int32) (tanks : Nat → Int32) (cows : Nat → Int32) (bst : Nat → Nat → Int32) (n : Nat) (farm : Nat → Int32) (amount : Nat → Int32) (mark : Nat → Int32) (place : Nat → Int32) (number : Nat → Int32) (paid : Nat → Int32) (blamed : Nat → Int32) (fa : Int32) (hlt : l.stackTraces = false) (hb : fa < 0 ∨ nI nb ≤ fa) : mX l yX2_loss cX2_loss 2 (some .int) 8 142 1 6 D (kTy k) [.ref (a 0), .int fa] (wMR k a rr (nI dy) (nI nv) rounds (kB ub) (nI nb) vrooms vis (nI nf) rooms tanks cows bst (nI n) farm amount mark place number paid blamed) (.inr "java/lang/IndexOutOfBoundsException") := by
  refine mX.of (lv' := [(0, .ref (a 0)), (1, .int fa)]) (by decide) (Nat.le_of_ble_eq_true rfl) rfl ?_
  intro p e s m args below meth c E hr hlk hex hZ hA
  refine k_aload_n E 0 rfl rfl dX2_loss_0 ?_
  refine k_iload_n E 1 rfl rfl dX2_loss_1 ?_
  refine k_callXV [.int fa] E hA hZ (m_X2_requireGradedBatch_b l D k a rr dy nv rounds ub nb vrooms vis nf rooms tanks cows bst n farm amount mark place number paid blamed fa hlt (by first | assumption | omega)) cf_X2_requireGradedBatch q_572 [] [] rfl 0 rfl rfl rfl rfl ⟨by decide, by decide⟩ (Nat.le_of_ble_eq_true rfl) ⟨by decide, by decide⟩ dX2_loss_2 (fun v1 W1 ho => by cases ho) (fun X1 ho => ?_)
  cases ho
  exact k_xout hlk hex rfl rfl (by decide) (by decide)
set_option maxRecDepth 100000 in
set_option maxHeartbeats 4000000 in
theorem m_X2_loss_u (l : Launch) (D : va_G) (k : Nat → ClassId) (a : Nat → Nat) (rr : Nat → Nat) (dy : Nat) (nv : Nat) (rounds : Int32) (ub : Bool) (nb : Nat) (vrooms : Nat → Int32) (vis : Nat → Int32) (nf : Nat) (rooms : Nat → Int32) (tanks : Nat → Int32) (cows : Nat → Int32) (bst : Nat → Nat → Int32) (n : Nat) (farm : Nat → Int32) (amount : Nat → Int32) (mark : Nat → Int32) (place : Nat → Int32) (number : Nat → Int32) (paid : Nat → Int32) (blamed : Nat → Int32) (j : Nat) (hlt : l.stackTraces = false) (hj : j < nb) (hnb : nb ≤ 20) (hn : n ≤ 100) (hg : grB mark place number (nI j) n = false) : mX l yX2_loss cX2_loss 2 (some .int) 8 142 1 6 D (kTy k) [.ref (a 0), .int (nI j)] (wMR k a rr (nI dy) (nI nv) rounds (kB ub) (nI nb) vrooms vis (nI nf) rooms tanks cows bst (nI n) farm amount mark place number paid blamed) (.inr "java/lang/UnsupportedOperationException") := by
  refine mX.of (lv' := [(0, .ref (a 0)), (1, .int (nI j))]) (by decide) (Nat.le_of_ble_eq_true rfl) rfl ?_
  intro p e s m args below meth c E hr hlk hex hZ hA
  refine k_aload_n E 0 rfl rfl dX2_loss_0 ?_
  refine k_iload_n E 1 rfl rfl dX2_loss_1 ?_
  refine k_callXV [.int (nI j)] E hA hZ (m_X2_requireGradedBatch_u l D k a rr dy nv rounds ub nb vrooms vis nf rooms tanks cows bst n farm amount mark place number paid blamed j hlt (by first | assumption | omega) (by first | assumption | omega) (by first | assumption | omega) (by first | assumption | omega)) cf_X2_requireGradedBatch q_572 [] [] rfl 0 rfl rfl rfl rfl ⟨by decide, by decide⟩ (Nat.le_of_ble_eq_true rfl) ⟨by decide, by decide⟩ dX2_loss_2 (fun v1 W1 ho => by cases ho) (fun X1 ho => ?_)
  cases ho
  exact k_xout hlk hex rfl rfl (by decide) (by decide)
set_option maxRecDepth 100000 in
set_option maxHeartbeats 4000000 in
theorem m_X2_pay (l : Launch) (D : va_G) (k : Nat → ClassId) (a : Nat → Nat) (rr : Nat → Nat) (dy : Nat) (nv : Nat) (rounds : Int32) (ub : Bool) (nb : Nat) (vrooms : Nat → Int32) (vis : Nat → Int32) (nf : Nat) (rooms : Nat → Int32) (tanks : Nat → Int32) (cows : Nat → Int32) (bst : Nat → Nat → Int32) (n : Nat) (farm : Nat → Int32) (amount : Nat → Int32) (mark : Nat → Int32) (place : Nat → Int32) (number : Nat → Int32) (paid : Nat → Int32) (blamed : Nat → Int32) (j : Nat) (hj : j < nf) (hnf : nf ≤ 6) (hnb : nb ≤ 20) (hn : n ≤ 100) : mR l yX2_pay cX2_pay 5 (some .long) 7 121 D (kTy k) [.ref (a 0), .int (nI j)] (wMR k a rr (nI dy) (nI nv) rounds (kB ub) (nI nb) vrooms vis (nI nf) rooms tanks cows bst (nI n) farm amount mark place number paid blamed) (some (.long (sL (fun _ => true) (fun zb => (sI (fun zi => decide (farm zi = nI j) && cIn place number 98 (nI zb) zi) paid n).toInt64) nb))) := by
  refine mR.of (lv' := [(0, .ref (a 0)), (1, .int (nI j))]) (by decide) (Nat.le_of_ble_eq_true rfl) rfl ?_
  intro p e s m args below meth c E hr hlk
  have L10 : ∀ (dn10 : Nat) (i : Nat) (x : Int64), i + dn10 = nb → (x = sL (fun _ => true) (fun zb => (sI (fun zi => decide (farm zi = nI j) && cIn place number 98 (nI zb) zi) paid n).toInt64) i) → kJ p l e (kRm 7 121) s m args below meth c (gR D s.heap) 5 0 0 (MQ below (kQr (some (.long (sL (fun _ => true) (fun zb => (sI (fun zi => decide (farm zi = nI j) && cIn place number 98 (nI zb) zi) paid n).toInt64) nb)))) args s 0 0 (fun _ => False)) (wMR k a rr (nI dy) (nI nv) rounds (kB ub) (nI nb) vrooms vis (nI nf) rooms tanks cows bst (nI n) farm amount mark place number paid blamed) 10 [(0, .ref (a 0)), (1, .int (nI j)), (2, .long x), (4, .int (nI i))] [] := by
    intro dn10
    induction dn10 with
    | zero =>
      intro i x hd10 hx
      refine k_iload E 3 rfl dX2_pay_10 ?_
      refine k_aload_n E 0 rfl rfl dX2_pay_12 ?_
      refine k_get E inX2 0 rfl rfl 8 (by decide) q_100 rfl rfl dX2_pay_13 ?_
      refine k_icmp_ge E (tgt := 39) (by decide) dX2_pay_16 (fun c16 => ?_) (fun c16 => absurd ((not_congr (nI_leI (a := nb) (b := i) (by omega) (by omega))).mp c16) (by omega))
      have c16 := (nI_leI (a := nb) (b := i) (by omega) (by omega)).mp c16
      refine k_lload_n E 2 rfl rfl dX2_pay_39 ?_
      exact kr_lret E hr hlk (by rw [hx, show i = nb by omega]) dX2_pay_40
    | succ dn10 ih10 =>
      intro i x hd10 hx
      refine k_iload E 3 rfl dX2_pay_10 ?_
      refine k_aload_n E 0 rfl rfl dX2_pay_12 ?_
      refine k_get E inX2 0 rfl rfl 8 (by decide) q_100 rfl rfl dX2_pay_13 ?_
      refine k_icmp_ge E (tgt := 39) (by decide) dX2_pay_16 (fun c16 => absurd ((nI_leI (a := nb) (b := i) (by omega) (by omega)).mp c16) (by omega)) (fun c16 => ?_)
      have c16 := (not_congr (nI_leI (a := nb) (b := i) (by omega) (by omega))).mp c16
      refine k_lload_n E 2 rfl rfl dX2_pay_19 ?_
      refine k_aload_n E 0 rfl rfl dX2_pay_20 ?_
      refine k_get E inX2 0 rfl rfl 7 (by decide) q_99 rfl rfl dX2_pay_21 ?_
      refine k_iload_n E 1 rfl rfl dX2_pay_24 ?_
      refine k_iload E 3 rfl dX2_pay_25 ?_
      refine k_callRVN [.int (nI j), .int (nI i)] E (m_X1_paidTo l D k (a 8) (a 9) (a 10) (a 11) (a 12) (a 13) (a 14) (a 15) n farm amount mark place number paid blamed (nI j) (nI i) (by first | assumption | omega)) cf_X1_paidTo rfl (by decide +kernel) [14, 15, 16, 17, 18, 19, 20, 21] rfl 14 rfl rfl rfl rfl ⟨by decide, by decide⟩ (Nat.le_of_ble_eq_true rfl) ⟨by decide, by decide⟩ dX2_pay_27 ?_
      refine k_steq (st' := [.int (sI (fun zi => decide (farm zi = (nI j)) && cIn place number 98 (nI i) zi) paid n), .long x]) rfl ?_
      refine k_i2l E (v := (sI (fun zi => decide (farm zi = (nI j)) && cIn place number 98 (nI i) zi) paid n).toInt64) rfl dX2_pay_30 ?_
      refine k_ladd E dX2_pay_31 ?_
      refine k_lstore_n (lv' := [(2, .long (x + ((sI (fun zi => decide (farm zi = (nI j)) && cIn place number 98 (nI i) zi) paid n).toInt64))), (0, .ref (a 0)), (1, .int (nI j)), (4, .int (nI i))]) E rfl (by decide) rfl dX2_pay_32 ?_
      refine k_iinc (q := 3) (v := nI (i + 1)) (lv' := [(4, .int (nI (i + 1))), (2, .long (x + ((sI (fun zi => decide (farm zi = (nI j)) && cIn place number 98 (nI i) zi) paid n).toInt64))), (0, .ref (a 0)), (1, .int (nI j))]) E rfl (nI_inc _) (by decide) rfl dX2_pay_33 ?_
      refine k_goto E (tgt := 10) (by decide) dX2_pay_36 ?_
      refine k_lv [2, 3, 1, 0] rfl ?_
      exact ih10 (i + 1) (x + ((sI (fun zi => decide (farm zi = (nI j)) && cIn place number 98 (nI i) zi) paid n).toInt64)) (by omega) (by rw [hx]; simp [sL])
  refine k_aload_n E 0 rfl rfl dX2_pay_0 ?_
  refine k_iload_n E 1 rfl rfl dX2_pay_1 ?_
  refine k_callRV [.int (nI j)] E (m_X2_requireFarm l D k a rr dy nv rounds ub nb vrooms vis nf rooms tanks cows bst n farm amount mark place number paid blamed j (by first | assumption | omega) (by first | assumption | omega)) cf_X2_requireFarm q_276 [0, 1, 2, 3, 4, 5, 6, 7, 8, 9, 10, 11, 12, 13, 14, 15, 16, 17, 18, 19, 20, 21] rfl 0 rfl rfl rfl rfl ⟨by decide, by decide⟩ (Nat.le_of_ble_eq_true rfl) ⟨by decide, by decide⟩ dX2_pay_2 ?_
  refine k_steq (st' := []) rfl ?_
  refine k_lconst E (v := 0) (by decide) dX2_pay_5 ?_
  refine k_lstore_n (lv' := [(2, .long 0), (0, .ref (a 0)), (1, .int (nI j))]) E rfl (by decide) rfl dX2_pay_6 ?_
  refine k_iconst E (v := 0) (by decide) dX2_pay_7 ?_
  refine k_istore (lv' := [(4, .int 0), (2, .long 0), (0, .ref (a 0)), (1, .int (nI j))]) E (by decide) rfl dX2_pay_8 ?_
  refine k_lv [2, 3, 1, 0] rfl ?_
  exact L10 (nb - 0) 0 0 (by omega) rfl
set_option maxRecDepth 100000 in
set_option maxHeartbeats 4000000 in
theorem m_X2_pay_i (l : Launch) (D : va_G) (k : Nat → ClassId) (a : Nat → Nat) (rr : Nat → Nat) (dy : Nat) (nv : Nat) (rounds : Int32) (ub : Bool) (nb : Nat) (vrooms : Nat → Int32) (vis : Nat → Int32) (nf : Nat) (rooms : Nat → Int32) (tanks : Nat → Int32) (cows : Nat → Int32) (bst : Nat → Nat → Int32) (n : Nat) (farm : Nat → Int32) (amount : Nat → Int32) (mark : Nat → Int32) (place : Nat → Int32) (number : Nat → Int32) (paid : Nat → Int32) (blamed : Nat → Int32) (fa : Int32) (hlt : l.stackTraces = false) (hb : fa < 0 ∨ nI nf ≤ fa) : mX l yX2_pay cX2_pay 5 (some .long) 7 121 1 6 D (kTy k) [.ref (a 0), .int fa] (wMR k a rr (nI dy) (nI nv) rounds (kB ub) (nI nb) vrooms vis (nI nf) rooms tanks cows bst (nI n) farm amount mark place number paid blamed) (.inr "java/lang/IndexOutOfBoundsException") := by
  refine mX.of (lv' := [(0, .ref (a 0)), (1, .int fa)]) (by decide) (Nat.le_of_ble_eq_true rfl) rfl ?_
  intro p e s m args below meth c E hr hlk hex hZ hA
  refine k_aload_n E 0 rfl rfl dX2_pay_0 ?_
  refine k_iload_n E 1 rfl rfl dX2_pay_1 ?_
  refine k_callXV [.int fa] E hA hZ (m_X2_requireFarm_b l D k a rr dy nv rounds ub nb vrooms vis nf rooms tanks cows bst n farm amount mark place number paid blamed fa hlt (by first | assumption | omega)) cf_X2_requireFarm q_276 [] [] rfl 0 rfl rfl rfl rfl ⟨by decide, by decide⟩ (Nat.le_of_ble_eq_true rfl) ⟨by decide, by decide⟩ dX2_pay_2 (fun v1 W1 ho => by cases ho) (fun X1 ho => ?_)
  cases ho
  exact k_xout hlk hex rfl rfl (by decide) (by decide)
set_option maxRecDepth 100000 in
set_option maxHeartbeats 4000000 in
theorem m_X2_blame (l : Launch) (D : va_G) (k : Nat → ClassId) (a : Nat → Nat) (rr : Nat → Nat) (dy : Nat) (nv : Nat) (rounds : Int32) (ub : Bool) (nb : Nat) (vrooms : Nat → Int32) (vis : Nat → Int32) (nf : Nat) (rooms : Nat → Int32) (tanks : Nat → Int32) (cows : Nat → Int32) (bst : Nat → Nat → Int32) (n : Nat) (farm : Nat → Int32) (amount : Nat → Int32) (mark : Nat → Int32) (place : Nat → Int32) (number : Nat → Int32) (paid : Nat → Int32) (blamed : Nat → Int32) (j : Nat) (hj : j < nf) (hnf : nf ≤ 6) (hnb : nb ≤ 20) (hn : n ≤ 100) : mR l yX2_blame cX2_blame 5 (some .long) 7 121 D (kTy k) [.ref (a 0), .int (nI j)] (wMR k a rr (nI dy) (nI nv) rounds (kB ub) (nI nb) vrooms vis (nI nf) rooms tanks cows bst (nI n) farm amount mark place number paid blamed) (some (.long (sL (fun _ => true) (fun zb => (sI (fun zi => decide (farm zi = nI j) && cIn place number 98 (nI zb) zi) blamed n).toInt64) nb))) := by
  refine mR.of (lv' := [(0, .ref (a 0)), (1, .int (nI j))]) (by decide) (Nat.le_of_ble_eq_true rfl) rfl ?_
  intro p e s m args below meth c E hr hlk
  have L10 : ∀ (dn10 : Nat) (i : Nat) (x : Int64), i + dn10 = nb → (x = sL (fun _ => true) (fun zb => (sI (fun zi => decide (farm zi = nI j) && cIn place number 98 (nI zb) zi) blamed n).toInt64) i) → kJ p l e (kRm 7 121) s m args below meth c (gR D s.heap) 5 0 0 (MQ below (kQr (some (.long (sL (fun _ => true) (fun zb => (sI (fun zi => decide (farm zi = nI j) && cIn place number 98 (nI zb) zi) blamed n).toInt64) nb)))) args s 0 0 (fun _ => False)) (wMR k a rr (nI dy) (nI nv) rounds (kB ub) (nI nb) vrooms vis (nI nf) rooms tanks cows bst (nI n) farm amount mark place number paid blamed) 10 [(0, .ref (a 0)), (1, .int (nI j)), (2, .long x), (4, .int (nI i))] [] := by
    intro dn10
    induction dn10 with
    | zero =>
      intro i x hd10 hx
      refine k_iload E 3 rfl dX2_blame_10 ?_
      refine k_aload_n E 0 rfl rfl dX2_blame_12 ?_
      refine k_get E inX2 0 rfl rfl 8 (by decide) q_100 rfl rfl dX2_blame_13 ?_
      refine k_icmp_ge E (tgt := 39) (by decide) dX2_blame_16 (fun c16 => ?_) (fun c16 => absurd ((not_congr (nI_leI (a := nb) (b := i) (by omega) (by omega))).mp c16) (by omega))
      have c16 := (nI_leI (a := nb) (b := i) (by omega) (by omega)).mp c16
      refine k_lload_n E 2 rfl rfl dX2_blame_39 ?_
      exact kr_lret E hr hlk (by rw [hx, show i = nb by omega]) dX2_blame_40
    | succ dn10 ih10 =>
      intro i x hd10 hx
      refine k_iload E 3 rfl dX2_blame_10 ?_
      refine k_aload_n E 0 rfl rfl dX2_blame_12 ?_
      refine k_get E inX2 0 rfl rfl 8 (by decide) q_100 rfl rfl dX2_blame_13 ?_
      refine k_icmp_ge E (tgt := 39) (by decide) dX2_blame_16 (fun c16 => absurd ((nI_leI (a := nb) (b := i) (by omega) (by omega)).mp c16) (by omega)) (fun c16 => ?_)
      have c16 := (not_congr (nI_leI (a := nb) (b := i) (by omega) (by omega))).mp c16
      refine k_lload_n E 2 rfl rfl dX2_blame_19 ?_
      refine k_aload_n E 0 rfl rfl dX2_blame_20 ?_
      refine k_get E inX2 0 rfl rfl 7 (by decide) q_99 rfl rfl dX2_blame_21 ?_
      refine k_iload_n E 1 rfl rfl dX2_blame_24 ?_
      refine k_iload E 3 rfl dX2_blame_25 ?_
      refine k_callRVN [.int (nI j), .int (nI i)] E (m_X1_blamedOn l D k (a 8) (a 9) (a 10) (a 11) (a 12) (a 13) (a 14) (a 15) n farm amount mark place number paid blamed (nI j) (nI i) (by first | assumption | omega)) cf_X1_blamedOn rfl (by decide +kernel) [14, 15, 16, 17, 18, 19, 20, 21] rfl 14 rfl rfl rfl rfl ⟨by decide, by decide⟩ (Nat.le_of_ble_eq_true rfl) ⟨by decide, by decide⟩ dX2_blame_27 ?_
      refine k_steq (st' := [.int (sI (fun zi => decide (farm zi = (nI j)) && cIn place number 98 (nI i) zi) blamed n), .long x]) rfl ?_
      refine k_i2l E (v := (sI (fun zi => decide (farm zi = (nI j)) && cIn place number 98 (nI i) zi) blamed n).toInt64) rfl dX2_blame_30 ?_
      refine k_ladd E dX2_blame_31 ?_
      refine k_lstore_n (lv' := [(2, .long (x + ((sI (fun zi => decide (farm zi = (nI j)) && cIn place number 98 (nI i) zi) blamed n).toInt64))), (0, .ref (a 0)), (1, .int (nI j)), (4, .int (nI i))]) E rfl (by decide) rfl dX2_blame_32 ?_
      refine k_iinc (q := 3) (v := nI (i + 1)) (lv' := [(4, .int (nI (i + 1))), (2, .long (x + ((sI (fun zi => decide (farm zi = (nI j)) && cIn place number 98 (nI i) zi) blamed n).toInt64))), (0, .ref (a 0)), (1, .int (nI j))]) E rfl (nI_inc _) (by decide) rfl dX2_blame_33 ?_
      refine k_goto E (tgt := 10) (by decide) dX2_blame_36 ?_
      refine k_lv [2, 3, 1, 0] rfl ?_
      exact ih10 (i + 1) (x + ((sI (fun zi => decide (farm zi = (nI j)) && cIn place number 98 (nI i) zi) blamed n).toInt64)) (by omega) (by rw [hx]; simp [sL])
  refine k_aload_n E 0 rfl rfl dX2_blame_0 ?_
  refine k_iload_n E 1 rfl rfl dX2_blame_1 ?_
  refine k_callRV [.int (nI j)] E (m_X2_requireFarm l D k a rr dy nv rounds ub nb vrooms vis nf rooms tanks cows bst n farm amount mark place number paid blamed j (by first | assumption | omega) (by first | assumption | omega)) cf_X2_requireFarm q_276 [0, 1, 2, 3, 4, 5, 6, 7, 8, 9, 10, 11, 12, 13, 14, 15, 16, 17, 18, 19, 20, 21] rfl 0 rfl rfl rfl rfl ⟨by decide, by decide⟩ (Nat.le_of_ble_eq_true rfl) ⟨by decide, by decide⟩ dX2_blame_2 ?_
  refine k_steq (st' := []) rfl ?_
  refine k_lconst E (v := 0) (by decide) dX2_blame_5 ?_
  refine k_lstore_n (lv' := [(2, .long 0), (0, .ref (a 0)), (1, .int (nI j))]) E rfl (by decide) rfl dX2_blame_6 ?_
  refine k_iconst E (v := 0) (by decide) dX2_blame_7 ?_
  refine k_istore (lv' := [(4, .int 0), (2, .long 0), (0, .ref (a 0)), (1, .int (nI j))]) E (by decide) rfl dX2_blame_8 ?_
  refine k_lv [2, 3, 1, 0] rfl ?_
  exact L10 (nb - 0) 0 0 (by omega) rfl
set_option maxRecDepth 100000 in
set_option maxHeartbeats 4000000 in
theorem m_X2_blame_i (l : Launch) (D : va_G) (k : Nat → ClassId) (a : Nat → Nat) (rr : Nat → Nat) (dy : Nat) (nv : Nat) (rounds : Int32) (ub : Bool) (nb : Nat) (vrooms : Nat → Int32) (vis : Nat → Int32) (nf : Nat) (rooms : Nat → Int32) (tanks : Nat → Int32) (cows : Nat → Int32) (bst : Nat → Nat → Int32) (n : Nat) (farm : Nat → Int32) (amount : Nat → Int32) (mark : Nat → Int32) (place : Nat → Int32) (number : Nat → Int32) (paid : Nat → Int32) (blamed : Nat → Int32) (fa : Int32) (hlt : l.stackTraces = false) (hb : fa < 0 ∨ nI nf ≤ fa) : mX l yX2_blame cX2_blame 5 (some .long) 7 121 1 6 D (kTy k) [.ref (a 0), .int fa] (wMR k a rr (nI dy) (nI nv) rounds (kB ub) (nI nb) vrooms vis (nI nf) rooms tanks cows bst (nI n) farm amount mark place number paid blamed) (.inr "java/lang/IndexOutOfBoundsException") := by
  refine mX.of (lv' := [(0, .ref (a 0)), (1, .int fa)]) (by decide) (Nat.le_of_ble_eq_true rfl) rfl ?_
  intro p e s m args below meth c E hr hlk hex hZ hA
  refine k_aload_n E 0 rfl rfl dX2_blame_0 ?_
  refine k_iload_n E 1 rfl rfl dX2_blame_1 ?_
  refine k_callXV [.int fa] E hA hZ (m_X2_requireFarm_b l D k a rr dy nv rounds ub nb vrooms vis nf rooms tanks cows bst n farm amount mark place number paid blamed fa hlt (by first | assumption | omega)) cf_X2_requireFarm q_276 [] [] rfl 0 rfl rfl rfl rfl ⟨by decide, by decide⟩ (Nat.le_of_ble_eq_true rfl) ⟨by decide, by decide⟩ dX2_blame_2 (fun v1 W1 ho => by cases ho) (fun X1 ho => ?_)
  cases ho
  exact k_xout hlk hex rfl rfl (by decide) (by decide)
set_option maxRecDepth 100000 in
set_option maxHeartbeats 4000000 in
theorem m_X2_balanceBySamples (l : Launch) (D : va_G) (k : Nat → ClassId) (a : Nat → Nat) (rr : Nat → Nat) (dy : Nat) (nv : Nat) (rounds : Int32) (ub : Bool) (nb : Nat) (vrooms : Nat → Int32) (vis : Nat → Int32) (nf : Nat) (rooms : Nat → Int32) (tanks : Nat → Int32) (cows : Nat → Int32) (bst : Nat → Nat → Int32) (n : Nat) (farm : Nat → Int32) (amount : Nat → Int32) (mark : Nat → Int32) (place : Nat → Int32) (number : Nat → Int32) (paid : Nat → Int32) (blamed : Nat → Int32) (j : Nat) (hj : j < nf) (hnf : nf ≤ 6) (hn : n ≤ 100) : mR l yX2_balanceBySamples cX2_balanceBySamples 2 (some .long) 7 121 D (kTy k) [.ref (a 0), .int (nI j)] (wMR k a rr (nI dy) (nI nv) rounds (kB ub) (nI nb) vrooms vis (nI nf) rooms tanks cows bst (nI n) farm amount mark place number paid blamed) (some (.long (sL (fun zi => decide (farm zi = nI j)) (fun zi => (paid zi - blamed zi).toInt64) n))) := by
  refine mR.of (lv' := [(0, .ref (a 0)), (1, .int (nI j))]) (by decide) (Nat.le_of_ble_eq_true rfl) rfl ?_
  intro p e s m args below meth c E hr hlk
  refine k_aload_n E 0 rfl rfl dX2_balanceBySamples_0 ?_
  refine k_iload_n E 1 rfl rfl dX2_balanceBySamples_1 ?_
  refine k_callRV [.int (nI j)] E (m_X2_requireFarm l D k a rr dy nv rounds ub nb vrooms vis nf rooms tanks cows bst n farm amount mark place number paid blamed j (by first | assumption | omega) (by first | assumption | omega)) cf_X2_requireFarm q_276 [0, 1, 2, 3, 4, 5, 6, 7, 8, 9, 10, 11, 12, 13, 14, 15, 16, 17, 18, 19, 20, 21] rfl 0 rfl rfl rfl rfl ⟨by decide, by decide⟩ (Nat.le_of_ble_eq_true rfl) ⟨by decide, by decide⟩ dX2_balanceBySamples_2 ?_
  refine k_steq (st' := []) rfl ?_
  refine k_aload_n E 0 rfl rfl dX2_balanceBySamples_5 ?_
  refine k_get E inX2 0 rfl rfl 7 (by decide) q_99 rfl rfl dX2_balanceBySamples_6 ?_
  refine k_iload_n E 1 rfl rfl dX2_balanceBySamples_9 ?_
  refine k_callRVN [.int (nI j)] E (m_X1_balanceOf l D k (a 8) (a 9) (a 10) (a 11) (a 12) (a 13) (a 14) (a 15) n farm amount mark place number paid blamed (nI j) (by first | assumption | omega)) cf_X1_balanceOf rfl (by decide +kernel) [14, 15, 16, 17, 18, 19, 20, 21] rfl 14 rfl rfl rfl rfl ⟨by decide, by decide⟩ (Nat.le_of_ble_eq_true rfl) ⟨by decide, by decide⟩ dX2_balanceBySamples_10 ?_
  refine k_steq (st' := [.long (sL (fun zi => decide (farm zi = (nI j))) (fun zi => (paid zi - blamed zi).toInt64) n)]) rfl ?_
  exact kr_lret E hr hlk rfl dX2_balanceBySamples_13
set_option maxRecDepth 100000 in
set_option maxHeartbeats 4000000 in
theorem m_X2_balanceBySamples_i (l : Launch) (D : va_G) (k : Nat → ClassId) (a : Nat → Nat) (rr : Nat → Nat) (dy : Nat) (nv : Nat) (rounds : Int32) (ub : Bool) (nb : Nat) (vrooms : Nat → Int32) (vis : Nat → Int32) (nf : Nat) (rooms : Nat → Int32) (tanks : Nat → Int32) (cows : Nat → Int32) (bst : Nat → Nat → Int32) (n : Nat) (farm : Nat → Int32) (amount : Nat → Int32) (mark : Nat → Int32) (place : Nat → Int32) (number : Nat → Int32) (paid : Nat → Int32) (blamed : Nat → Int32) (fa : Int32) (hlt : l.stackTraces = false) (hb : fa < 0 ∨ nI nf ≤ fa) : mX l yX2_balanceBySamples cX2_balanceBySamples 2 (some .long) 7 121 1 6 D (kTy k) [.ref (a 0), .int fa] (wMR k a rr (nI dy) (nI nv) rounds (kB ub) (nI nb) vrooms vis (nI nf) rooms tanks cows bst (nI n) farm amount mark place number paid blamed) (.inr "java/lang/IndexOutOfBoundsException") := by
  refine mX.of (lv' := [(0, .ref (a 0)), (1, .int fa)]) (by decide) (Nat.le_of_ble_eq_true rfl) rfl ?_
  intro p e s m args below meth c E hr hlk hex hZ hA
  refine k_aload_n E 0 rfl rfl dX2_balanceBySamples_0 ?_
  refine k_iload_n E 1 rfl rfl dX2_balanceBySamples_1 ?_
  refine k_callXV [.int fa] E hA hZ (m_X2_requireFarm_b l D k a rr dy nv rounds ub nb vrooms vis nf rooms tanks cows bst n farm amount mark place number paid blamed fa hlt (by first | assumption | omega)) cf_X2_requireFarm q_276 [] [] rfl 0 rfl rfl rfl rfl ⟨by decide, by decide⟩ (Nat.le_of_ble_eq_true rfl) ⟨by decide, by decide⟩ dX2_balanceBySamples_2 (fun v1 W1 ho => by cases ho) (fun X1 ho => ?_)
  cases ho
  exact k_xout hlk hex rfl rfl (by decide) (by decide)
set_option maxRecDepth 100000 in
set_option maxHeartbeats 4000000 in
theorem m_X2_spoiltShare (l : Launch) (D : va_G) (k : Nat → ClassId) (a : Nat → Nat) (rr : Nat → Nat) (dy : Nat) (nv : Nat) (rounds : Int32) (ub : Bool) (nb : Nat) (vrooms : Nat → Int32) (vis : Nat → Int32) (nf : Nat) (rooms : Nat → Int32) (tanks : Nat → Int32) (cows : Nat → Int32) (bst : Nat → Nat → Int32) (n : Nat) (farm : Nat → Int32) (amount : Nat → Int32) (mark : Nat → Int32) (place : Nat → Int32) (number : Nat → Int32) (paid : Nat → Int32) (blamed : Nat → Int32) (hnb : nb ≤ 20) (hn : n ≤ 100) (h0 : 0 < sI (fun _ => true) amount n) (hnan : vf_n32 (FP.fdiv (FP.i2f (sI (fun zb => decide (0 < spl mark place number amount (nI zb) n)) (fun zb => sI (cIn place number 98 (nI zb)) amount n) nb)) (FP.i2f (sI (fun _ => true) amount n)))) : mR l yX2_spoiltShare cX2_spoiltShare 4 (some .float) 6 100 D (kTy k) [.ref (a 0)] (wMR k a rr (nI dy) (nI nv) rounds (kB ub) (nI nb) vrooms vis (nI nf) rooms tanks cows bst (nI n) farm amount mark place number paid blamed) (some (.float (FP.fdiv (FP.i2f (sI (fun zb => decide (0 < spl mark place number amount (nI zb) n)) (fun zb => sI (cIn place number 98 (nI zb)) amount n) nb)) (FP.i2f (sI (fun _ => true) amount n))))) := by
  refine mR.of (lv' := [(0, .ref (a 0))]) (by decide) (Nat.le_of_ble_eq_true rfl) rfl ?_
  intro p e s m args below meth c E hr hlk
  have L26 : ∀ (dn26 : Nat) (i : Nat) (x : Int32), i + dn26 = nb → (x = sI (fun zb => decide (0 < spl mark place number amount (nI zb) n)) (fun zb => sI (cIn place number 98 (nI zb)) amount n) i) → kJ p l e (kRm 6 100) s m args below meth c (gR D s.heap) 4 0 0 (MQ below (kQr (some (.float (FP.fdiv (FP.i2f (sI (fun zb => decide (0 < spl mark place number amount (nI zb) n)) (fun zb => sI (cIn place number 98 (nI zb)) amount n) nb)) (FP.i2f (sI (fun _ => true) amount n)))))) args s 0 0 (fun _ => False)) (wMR k a rr (nI dy) (nI nv) rounds (kB ub) (nI nb) vrooms vis (nI nf) rooms tanks cows bst (nI n) farm amount mark place number paid blamed) 26 [(0, .ref (a 0)), (1, .int (sI (fun _ => true) amount n)), (2, .int x), (3, .int (nI i))] [] := by
    intro dn26
    induction dn26 with
    | zero =>
      intro i x hd26 hx
      refine k_iload_n E 3 rfl rfl dX2_spoiltShare_26 ?_
      refine k_aload_n E 0 rfl rfl dX2_spoiltShare_27 ?_
      refine k_get E inX2 0 rfl rfl 8 (by decide) q_100 rfl rfl dX2_spoiltShare_28 ?_
      refine k_icmp_ge E (tgt := 64) (by decide) dX2_spoiltShare_31 (fun c31 => ?_) (fun c31 => absurd ((not_congr (nI_leI (a := nb) (b := i) (by omega) (by omega))).mp c31) (by omega))
      have c31 := (nI_leI (a := nb) (b := i) (by omega) (by omega)).mp c31
      refine k_iload_n E 2 rfl rfl dX2_spoiltShare_64 ?_
      refine k_i2f E dX2_spoiltShare_65 ?_
      refine k_iload_n E 1 rfl rfl dX2_spoiltShare_66 ?_
      refine k_i2f E dX2_spoiltShare_67 ?_
      refine k_fdiv E (by rw [hx, show i = nb by omega]; exact hnan) dX2_spoiltShare_68 ?_
      exact kr_fret E hr hlk (by rw [hx, show i = nb by omega]) dX2_spoiltShare_69
    | succ dn26 ih26 =>
      intro i x hd26 hx
      refine k_iload_n E 3 rfl rfl dX2_spoiltShare_26 ?_
      refine k_aload_n E 0 rfl rfl dX2_spoiltShare_27 ?_
      refine k_get E inX2 0 rfl rfl 8 (by decide) q_100 rfl rfl dX2_spoiltShare_28 ?_
      refine k_icmp_ge E (tgt := 64) (by decide) dX2_spoiltShare_31 (fun c31 => absurd ((nI_leI (a := nb) (b := i) (by omega) (by omega)).mp c31) (by omega)) (fun c31 => ?_)
      have c31 := (not_congr (nI_leI (a := nb) (b := i) (by omega) (by omega))).mp c31
      refine k_aload_n E 0 rfl rfl dX2_spoiltShare_34 ?_
      refine k_get E inX2 0 rfl rfl 7 (by decide) q_99 rfl rfl dX2_spoiltShare_35 ?_
      refine k_iload_n E 3 rfl rfl dX2_spoiltShare_38 ?_
      refine k_callRVN [.int (nI i)] E (m_X1_isSpoilt l D k (a 8) (a 9) (a 10) (a 11) (a 12) (a 13) (a 14) (a 15) n farm amount mark place number paid blamed (nI i) (by first | assumption | omega)) cf_X1_isSpoilt rfl (by decide +kernel) [14, 15, 16, 17, 18, 19, 20, 21] rfl 14 rfl rfl rfl rfl ⟨by decide, by decide⟩ (Nat.le_of_ble_eq_true rfl) ⟨by decide, by decide⟩ dX2_spoiltShare_39 ?_
      refine k_steq (st' := [.int (kB (decide (0 < spl mark place number amount (nI i) n)))]) rfl ?_
      refine k_if_eq E (tgt := 58) (by decide) dX2_spoiltShare_42 (fun c42 => ?_) (fun c42 => ?_)
      · skip
        have c42 := of_decide_eq_false (kB_f c42)
        refine k_iinc (q := 3) (v := nI (i + 1)) (lv' := [(3, .int (nI (i + 1))), (0, .ref (a 0)), (1, .int (sI (fun _ => true) amount n)), (2, .int x)]) E rfl (nI_inc _) (by decide) rfl dX2_spoiltShare_58 ?_
        refine k_goto E (tgt := 26) (by decide) dX2_spoiltShare_61 ?_
        refine k_lv [1, 2, 3, 0] rfl ?_
        exact ih26 (i + 1) x (by omega) (by rw [hx]; simp only [sI]; simp [c42])
      · skip
        have c42 := of_decide_eq_true (kB_t c42)
        refine k_iload_n E 2 rfl rfl dX2_spoiltShare_45 ?_
        refine k_aload_n E 0 rfl rfl dX2_spoiltShare_46 ?_
        refine k_get E inX2 0 rfl rfl 7 (by decide) q_99 rfl rfl dX2_spoiltShare_47 ?_
        refine k_bipush E (v := 98) (by decide) dX2_spoiltShare_50 ?_
        refine k_iload_n E 3 rfl rfl dX2_spoiltShare_52 ?_
        refine k_callRVN [.int 98, .int (nI i)] E (m_X1_litresIn l D k (a 8) (a 9) (a 10) (a 11) (a 12) (a 13) (a 14) (a 15) n farm amount mark place number paid blamed 98 (nI i) (by first | assumption | omega)) cf_X1_litresIn rfl (by decide +kernel) [14, 15, 16, 17, 18, 19, 20, 21] rfl 14 rfl rfl rfl rfl ⟨by decide, by decide⟩ (Nat.le_of_ble_eq_true rfl) ⟨by decide, by decide⟩ dX2_spoiltShare_53 ?_
        refine k_steq (st' := [.int (sI (cIn place number 98 (nI i)) amount n), .int x]) rfl ?_
        refine k_iadd E dX2_spoiltShare_56 ?_
        refine k_istore_n (lv' := [(2, .int (x + (sI (cIn place number 98 (nI i)) amount n))), (0, .ref (a 0)), (1, .int (sI (fun _ => true) amount n)), (3, .int (nI i))]) E rfl (by decide) rfl dX2_spoiltShare_57 ?_
        refine k_iinc (q := 3) (v := nI (i + 1)) (lv' := [(3, .int (nI (i + 1))), (2, .int (x + (sI (cIn place number 98 (nI i)) amount n))), (0, .ref (a 0)), (1, .int (sI (fun _ => true) amount n))]) E rfl (nI_inc _) (by decide) rfl dX2_spoiltShare_58 ?_
        refine k_goto E (tgt := 26) (by decide) dX2_spoiltShare_61 ?_
        refine k_lv [2, 3, 1, 0] rfl ?_
        exact ih26 (i + 1) (x + (sI (cIn place number 98 (nI i)) amount n)) (by omega) (by rw [hx]; simp only [sI]; simp [c42])
  refine k_aload_n E 0 rfl rfl dX2_spoiltShare_0 ?_
  refine k_get E inX2 0 rfl rfl 7 (by decide) q_99 rfl rfl dX2_spoiltShare_1 ?_
  refine k_callRVN [] E (m_X1_allLitres l D k (a 8) (a 9) (a 10) (a 11) (a 12) (a 13) (a 14) (a 15) n farm amount mark place number paid blamed (by first | assumption | omega)) cf_X1_allLitres rfl (by decide +kernel) [14, 15, 16, 17, 18, 19, 20, 21] rfl 14 rfl rfl rfl rfl ⟨by decide, by decide⟩ (Nat.le_of_ble_eq_true rfl) ⟨by decide, by decide⟩ dX2_spoiltShare_4 ?_
  refine k_steq (st' := [.int (sI (fun _ => true) amount n)]) rfl ?_
  refine k_istore_n (lv' := [(1, .int (sI (fun _ => true) amount n)), (0, .ref (a 0))]) E rfl (by decide) rfl dX2_spoiltShare_7 ?_
  refine k_iload_n E 0 rfl rfl dX2_spoiltShare_8 ?_
  refine k_if_gt E (tgt := 22) (by decide) dX2_spoiltShare_9 (fun c9 => ?_) (fun c9 => absurd c9 (not_not_intro h0))
  refine k_iconst E (v := 0) (by decide) dX2_spoiltShare_22 ?_
  refine k_istore_n (lv' := [(2, .int 0), (1, .int (sI (fun _ => true) amount n)), (0, .ref (a 0))]) E rfl (by decide) rfl dX2_spoiltShare_23 ?_
  refine k_iconst E (v := 0) (by decide) dX2_spoiltShare_24 ?_
  refine k_istore_n (lv' := [(3, .int 0), (2, .int 0), (1, .int (sI (fun _ => true) amount n)), (0, .ref (a 0))]) E rfl (by decide) rfl dX2_spoiltShare_25 ?_
  refine k_lv [3, 2, 1, 0] rfl ?_
  exact L26 (nb - 0) 0 0 (by omega) rfl
set_option maxRecDepth 100000 in
set_option maxHeartbeats 4000000 in
theorem m_X2_spoiltShare_r (l : Launch) (D : va_G) (k : Nat → ClassId) (a : Nat → Nat) (rr : Nat → Nat) (dy : Nat) (nv : Nat) (rounds : Int32) (ub : Bool) (nb : Nat) (vrooms : Nat → Int32) (vis : Nat → Int32) (nf : Nat) (rooms : Nat → Int32) (tanks : Nat → Int32) (cows : Nat → Int32) (bst : Nat → Nat → Int32) (n : Nat) (farm : Nat → Int32) (amount : Nat → Int32) (mark : Nat → Int32) (place : Nat → Int32) (number : Nat → Int32) (paid : Nat → Int32) (blamed : Nat → Int32) (hlt : l.stackTraces = false) (hn : n ≤ 100) (h0 : sI (fun _ => true) amount n ≤ 0) : mX l yX2_spoiltShare cX2_spoiltShare 4 (some .float) 6 100 1 6 D (kTy k) [.ref (a 0)] (wMR k a rr (nI dy) (nI nv) rounds (kB ub) (nI nb) vrooms vis (nI nf) rooms tanks cows bst (nI n) farm amount mark place number paid blamed) (.inr "java/lang/ArithmeticException") := by
  refine mX.of (lv' := [(0, .ref (a 0))]) (by decide) (Nat.le_of_ble_eq_true rfl) rfl ?_
  intro p e s m args below meth c E hr hlk hex hZ hA
  refine k_aload_n E 0 rfl rfl dX2_spoiltShare_0 ?_
  refine k_get E inX2 0 rfl rfl 7 (by decide) q_99 rfl rfl dX2_spoiltShare_1 ?_
  refine k_callRVN [] E (m_X1_allLitres l D k (a 8) (a 9) (a 10) (a 11) (a 12) (a 13) (a 14) (a 15) n farm amount mark place number paid blamed (by first | assumption | omega)) cf_X1_allLitres rfl (by decide +kernel) [14, 15, 16, 17, 18, 19, 20, 21] rfl 14 rfl rfl rfl rfl ⟨by decide, by decide⟩ (Nat.le_of_ble_eq_true rfl) ⟨by decide, by decide⟩ dX2_spoiltShare_4 ?_
  refine k_steq (st' := [.int (sI (fun _ => true) amount n)]) rfl ?_
  refine k_istore_n (lv' := [(1, .int (sI (fun _ => true) amount n)), (0, .ref (a 0))]) E rfl (by decide) rfl dX2_spoiltShare_7 ?_
  refine k_iload_n E 0 rfl rfl dX2_spoiltShare_8 ?_
  refine k_if_gt E (tgt := 22) (by decide) dX2_spoiltShare_9 (fun c9 => absurd c9 (Int32.not_lt.mpr h0)) (fun c9 => ?_)
  exact k_throw (cls := "java/lang/ArithmeticException") (text := "there are no samples") (names := ["java/lang/RuntimeException", "java/lang/Exception"]) (ic := 224) E hlt hlk hex hZ rfl rfl rfl (by decide +kernel) (by decide +kernel) q_658 q_16 (by decide +kernel) gx_ArithmeticException bx_ArithmeticException ox_ArithmeticException dX2_spoiltShare_12 dX2_spoiltShare_15 dX2_spoiltShare_16 dX2_spoiltShare_18 dX2_spoiltShare_21 (by decide) (Nat.le_of_ble_eq_true rfl) (by decide) (by decide) (by decide) (by decide)
set_option maxRecDepth 100000 in
set_option maxHeartbeats 4000000 in
theorem m_X2_meanPay (l : Launch) (D : va_G) (k : Nat → ClassId) (a : Nat → Nat) (rr : Nat → Nat) (dy : Nat) (nv : Nat) (rounds : Int32) (ub : Bool) (nb : Nat) (vrooms : Nat → Int32) (vis : Nat → Int32) (nf : Nat) (rooms : Nat → Int32) (tanks : Nat → Int32) (cows : Nat → Int32) (bst : Nat → Nat → Int32) (n : Nat) (farm : Nat → Int32) (amount : Nat → Int32) (mark : Nat → Int32) (place : Nat → Int32) (number : Nat → Int32) (paid : Nat → Int32) (blamed : Nat → Int32) (hnb : nb ≤ 20) (hn : n ≤ 100) (h0 : 0 < lg_cmp (sL (fun zb => grB mark place number (nI zb) n) (fun zb => (sI (cIn place number 98 (nI zb)) amount n).toInt64) nb) 0) (hnan : vf_n64 (FP.ddiv (FP.l2d (sL (fun zb => grB mark place number (nI zb) n) (fun zb => (payB mark place number amount (nI zb) n).toInt64) nb)) (FP.l2d (sL (fun zb => grB mark place number (nI zb) n) (fun zb => (sI (cIn place number 98 (nI zb)) amount n).toInt64) nb)))) : mR l yX2_meanPay cX2_meanPay 6 (some .double) 6 110 D (kTy k) [.ref (a 0)] (wMR k a rr (nI dy) (nI nv) rounds (kB ub) (nI nb) vrooms vis (nI nf) rooms tanks cows bst (nI n) farm amount mark place number paid blamed) (some (.double (FP.ddiv (FP.l2d (sL (fun zb => grB mark place number (nI zb) n) (fun zb => (payB mark place number amount (nI zb) n).toInt64) nb)) (FP.l2d (sL (fun zb => grB mark place number (nI zb) n) (fun zb => (sI (cIn place number 98 (nI zb)) amount n).toInt64) nb))))) := by
  refine mR.of (lv' := [(0, .ref (a 0))]) (by decide) (Nat.le_of_ble_eq_true rfl) rfl ?_
  intro p e s m args below meth c E hr hlk
  have L7 : ∀ (dn7 : Nat) (i : Nat) (x : Int64) (y : Int64), i + dn7 = nb → (x = sL (fun zb => grB mark place number (nI zb) n) (fun zb => (payB mark place number amount (nI zb) n).toInt64) i) → (y = sL (fun zb => grB mark place number (nI zb) n) (fun zb => (sI (cIn place number 98 (nI zb)) amount n).toInt64) i) → kJ p l e (kRm 6 110) s m args below meth c (gR D s.heap) 6 0 0 (MQ below (kQr (some (.double (FP.ddiv (FP.l2d (sL (fun zb => grB mark place number (nI zb) n) (fun zb => (payB mark place number amount (nI zb) n).toInt64) nb)) (FP.l2d (sL (fun zb => grB mark place number (nI zb) n) (fun zb => (sI (cIn place number 98 (nI zb)) amount n).toInt64) nb)))))) args s 0 0 (fun _ => False)) (wMR k a rr (nI dy) (nI nv) rounds (kB ub) (nI nb) vrooms vis (nI nf) rooms tanks cows bst (nI n) farm amount mark place number paid blamed) 7 [(0, .ref (a 0)), (1, .long x), (3, .long y), (5, .int (nI i))] [] := by
    intro dn7
    induction dn7 with
    | zero =>
      intro i x y hd7 hx hy
      refine k_iload E 3 rfl dX2_meanPay_7 ?_
      refine k_aload_n E 0 rfl rfl dX2_meanPay_9 ?_
      refine k_get E inX2 0 rfl rfl 8 (by decide) q_100 rfl rfl dX2_meanPay_10 ?_
      refine k_icmp_ge E (tgt := 62) (by decide) dX2_meanPay_13 (fun c13 => ?_) (fun c13 => absurd ((not_congr (nI_leI (a := nb) (b := i) (by omega) (by omega))).mp c13) (by omega))
      have c13 := (nI_leI (a := nb) (b := i) (by omega) (by omega)).mp c13
      refine k_lload_n E 2 rfl rfl dX2_meanPay_62 ?_
      refine k_lconst E (v := 0) (by decide) dX2_meanPay_63 ?_
      refine k_lcmp E dX2_meanPay_64 ?_
      refine k_if_gt E (tgt := 78) (by decide) dX2_meanPay_65 (fun c65 => ?_) (fun c65 => absurd c65 (not_not_intro (by rw [hy, show i = nb by omega]; exact h0)))
      refine k_lload_n E 1 rfl rfl dX2_meanPay_78 ?_
      refine k_l2d E dX2_meanPay_79 ?_
      refine k_lload_n E 2 rfl rfl dX2_meanPay_80 ?_
      refine k_l2d E dX2_meanPay_81 ?_
      refine k_ddiv E (by rw [hx, hy, show i = nb by omega]; exact hnan) dX2_meanPay_82 ?_
      exact kr_dret E hr hlk (by rw [hx, hy, show i = nb by omega]) dX2_meanPay_83
    | succ dn7 ih7 =>
      intro i x y hd7 hx hy
      refine k_iload E 3 rfl dX2_meanPay_7 ?_
      refine k_aload_n E 0 rfl rfl dX2_meanPay_9 ?_
      refine k_get E inX2 0 rfl rfl 8 (by decide) q_100 rfl rfl dX2_meanPay_10 ?_
      refine k_icmp_ge E (tgt := 62) (by decide) dX2_meanPay_13 (fun c13 => absurd ((nI_leI (a := nb) (b := i) (by omega) (by omega)).mp c13) (by omega)) (fun c13 => ?_)
      have c13 := (not_congr (nI_leI (a := nb) (b := i) (by omega) (by omega))).mp c13
      refine k_aload_n E 0 rfl rfl dX2_meanPay_16 ?_
      refine k_get E inX2 0 rfl rfl 7 (by decide) q_99 rfl rfl dX2_meanPay_17 ?_
      refine k_iload E 3 rfl dX2_meanPay_20 ?_
      refine k_callRVN [.int (nI i)] E (m_X1_isGraded l D k (a 8) (a 9) (a 10) (a 11) (a 12) (a 13) (a 14) (a 15) n farm amount mark place number paid blamed (nI i) (by first | assumption | omega)) cf_X1_isGraded rfl (by decide +kernel) [14, 15, 16, 17, 18, 19, 20, 21] rfl 14 rfl rfl rfl rfl ⟨by decide, by decide⟩ (Nat.le_of_ble_eq_true rfl) ⟨by decide, by decide⟩ dX2_meanPay_22 ?_
      refine k_steq (st' := [.int (kB (grB mark place number (nI i) n))]) rfl ?_
      refine k_if_eq E (tgt := 56) (by decide) dX2_meanPay_25 (fun c25 => ?_) (fun c25 => ?_)
      · skip
        have c25 := kB_f c25
        refine k_iinc (q := 3) (v := nI (i + 1)) (lv' := [(5, .int (nI (i + 1))), (0, .ref (a 0)), (1, .long x), (3, .long y)]) E rfl (nI_inc _) (by decide) rfl dX2_meanPay_56 ?_
        refine k_goto E (tgt := 7) (by decide) dX2_meanPay_59 ?_
        refine k_lv [1, 2, 3, 0] rfl ?_
        exact ih7 (i + 1) x y (by omega) (by rw [hx]; simp only [sL]; simp [c25]) (by rw [hy]; simp only [sL]; simp [c25])
      · skip
        have c25 := kB_t c25
        refine k_lload_n E 1 rfl rfl dX2_meanPay_28 ?_
        refine k_aload_n E 0 rfl rfl dX2_meanPay_29 ?_
        refine k_get E inX2 0 rfl rfl 7 (by decide) q_99 rfl rfl dX2_meanPay_30 ?_
        refine k_iload E 3 rfl dX2_meanPay_33 ?_
        refine k_callRVN [.int (nI i)] E (m_X1_payOfAll l D k (a 8) (a 9) (a 10) (a 11) (a 12) (a 13) (a 14) (a 15) n farm amount mark place number paid blamed (nI i) (by first | assumption | omega)) cf_X1_payOfAll rfl (by decide +kernel) [14, 15, 16, 17, 18, 19, 20, 21] rfl 14 rfl rfl rfl rfl ⟨by decide, by decide⟩ (Nat.le_of_ble_eq_true rfl) ⟨by decide, by decide⟩ dX2_meanPay_35 ?_
        refine k_steq (st' := [.int (payB mark place number amount (nI i) n), .long x]) rfl ?_
        refine k_i2l E (v := (payB mark place number amount (nI i) n).toInt64) rfl dX2_meanPay_38 ?_
        refine k_ladd E dX2_meanPay_39 ?_
        refine k_lstore_n (lv' := [(1, .long (x + ((payB mark place number amount (nI i) n).toInt64))), (0, .ref (a 0)), (3, .long y), (5, .int (nI i))]) E rfl (by decide) rfl dX2_meanPay_40 ?_
        refine k_lload_n E 2 rfl rfl dX2_meanPay_41 ?_
        refine k_aload_n E 1 rfl rfl dX2_meanPay_42 ?_
        refine k_get E inX2 0 rfl rfl 7 (by decide) q_99 rfl rfl dX2_meanPay_43 ?_
        refine k_bipush E (v := 98) (by decide) dX2_meanPay_46 ?_
        refine k_iload E 3 rfl dX2_meanPay_48 ?_
        refine k_callRVN [.int 98, .int (nI i)] E (m_X1_litresIn l D k (a 8) (a 9) (a 10) (a 11) (a 12) (a 13) (a 14) (a 15) n farm amount mark place number paid blamed 98 (nI i) (by first | assumption | omega)) cf_X1_litresIn rfl (by decide +kernel) [14, 15, 16, 17, 18, 19, 20, 21] rfl 14 rfl rfl rfl rfl ⟨by decide, by decide⟩ (Nat.le_of_ble_eq_true rfl) ⟨by decide, by decide⟩ dX2_meanPay_50 ?_
        refine k_steq (st' := [.int (sI (cIn place number 98 (nI i)) amount n), .long y]) rfl ?_
        refine k_i2l E (v := (sI (cIn place number 98 (nI i)) amount n).toInt64) rfl dX2_meanPay_53 ?_
        refine k_ladd E dX2_meanPay_54 ?_
        refine k_lstore_n (lv' := [(3, .long (y + ((sI (cIn place number 98 (nI i)) amount n).toInt64))), (1, .long (x + ((payB mark place number amount (nI i) n).toInt64))), (0, .ref (a 0)), (5, .int (nI i))]) E rfl (by decide) rfl dX2_meanPay_55 ?_
        refine k_iinc (q := 3) (v := nI (i + 1)) (lv' := [(5, .int (nI (i + 1))), (3, .long (y + ((sI (cIn place number 98 (nI i)) amount n).toInt64))), (1, .long (x + ((payB mark place number amount (nI i) n).toInt64))), (0, .ref (a 0))]) E rfl (nI_inc _) (by decide) rfl dX2_meanPay_56 ?_
        refine k_goto E (tgt := 7) (by decide) dX2_meanPay_59 ?_
        refine k_lv [3, 2, 1, 0] rfl ?_
        exact ih7 (i + 1) (x + ((payB mark place number amount (nI i) n).toInt64)) (y + ((sI (cIn place number 98 (nI i)) amount n).toInt64)) (by omega) (by rw [hx]; simp only [sL]; simp [c25]) (by rw [hy]; simp only [sL]; simp [c25])
  refine k_lconst E (v := 0) (by decide) dX2_meanPay_0 ?_
  refine k_lstore_n (lv' := [(1, .long 0), (0, .ref (a 0))]) E rfl (by decide) rfl dX2_meanPay_1 ?_
  refine k_lconst E (v := 0) (by decide) dX2_meanPay_2 ?_
  refine k_lstore_n (lv' := [(3, .long 0), (1, .long 0), (0, .ref (a 0))]) E rfl (by decide) rfl dX2_meanPay_3 ?_
  refine k_iconst E (v := 0) (by decide) dX2_meanPay_4 ?_
  refine k_istore (lv' := [(5, .int 0), (3, .long 0), (1, .long 0), (0, .ref (a 0))]) E (by decide) rfl dX2_meanPay_5 ?_
  refine k_lv [3, 2, 1, 0] rfl ?_
  exact L7 (nb - 0) 0 0 0 (by omega) rfl rfl
set_option maxRecDepth 100000 in
set_option maxHeartbeats 4000000 in
theorem m_X2_meanPay_r (l : Launch) (D : va_G) (k : Nat → ClassId) (a : Nat → Nat) (rr : Nat → Nat) (dy : Nat) (nv : Nat) (rounds : Int32) (ub : Bool) (nb : Nat) (vrooms : Nat → Int32) (vis : Nat → Int32) (nf : Nat) (rooms : Nat → Int32) (tanks : Nat → Int32) (cows : Nat → Int32) (bst : Nat → Nat → Int32) (n : Nat) (farm : Nat → Int32) (amount : Nat → Int32) (mark : Nat → Int32) (place : Nat → Int32) (number : Nat → Int32) (paid : Nat → Int32) (blamed : Nat → Int32) (hlt : l.stackTraces = false) (hnb : nb ≤ 20) (hn : n ≤ 100) (h0 : lg_cmp (sL (fun zb => grB mark place number (nI zb) n) (fun zb => (sI (cIn place number 98 (nI zb)) amount n).toInt64) nb) 0 ≤ 0) : mX l yX2_meanPay cX2_meanPay 6 (some .double) 6 110 1 6 D (kTy k) [.ref (a 0)] (wMR k a rr (nI dy) (nI nv) rounds (kB ub) (nI nb) vrooms vis (nI nf) rooms tanks cows bst (nI n) farm amount mark place number paid blamed) (.inr "java/lang/ArithmeticException") := by
  refine mX.of (lv' := [(0, .ref (a 0))]) (by decide) (Nat.le_of_ble_eq_true rfl) rfl ?_
  intro p e s m args below meth c E hr hlk hex hZ hA
  have L7 : ∀ (dn7 : Nat) (i : Nat) (x : Int64) (y : Int64), i + dn7 = nb → (x = sL (fun zb => grB mark place number (nI zb) n) (fun zb => (payB mark place number amount (nI zb) n).toInt64) i) → (y = sL (fun zb => grB mark place number (nI zb) n) (fun zb => (sI (cIn place number 98 (nI zb)) amount n).toInt64) i) → kJ p l e (kRmc 6 110 1 6) s m args below meth c (gW D (va_A (wMR k a rr (nI dy) (nI nv) rounds (kB ub) (nI nb) vrooms vis (nI nf) rooms tanks cows bst (nI n) farm amount mark place number paid blamed) s.heap.size) s.heap) 6 0 0 (vx_MQ below (kXq (.inr "java/lang/ArithmeticException") D (wMR k a rr (nI dy) (nI nv) rounds (kB ub) (nI nb) vrooms vis (nI nf) rooms tanks cows bst (nI n) farm amount mark place number paid blamed) s.heap.size) (kXc (.inr "java/lang/ArithmeticException") D (wMR k a rr (nI dy) (nI nv) rounds (kB ub) (nI nb) vrooms vis (nI nf) rooms tanks cows bst (nI n) farm amount mark place number paid blamed) s.heap.size) args s 1 6 (va_A (wMR k a rr (nI dy) (nI nv) rounds (kB ub) (nI nb) vrooms vis (nI nf) rooms tanks cows bst (nI n) farm amount mark place number paid blamed) s.heap.size)) (wMR k a rr (nI dy) (nI nv) rounds (kB ub) (nI nb) vrooms vis (nI nf) rooms tanks cows bst (nI n) farm amount mark place number paid blamed) 7 [(0, .ref (a 0)), (1, .long x), (3, .long y), (5, .int (nI i))] [] := by
    intro dn7
    induction dn7 with
    | zero =>
      intro i x y hd7 hx hy
      refine k_iload E 3 rfl dX2_meanPay_7 ?_
      refine k_aload_n E 0 rfl rfl dX2_meanPay_9 ?_
      refine k_get E inX2 0 rfl rfl 8 (by decide) q_100 rfl rfl dX2_meanPay_10 ?_
      refine k_icmp_ge E (tgt := 62) (by decide) dX2_meanPay_13 (fun c13 => ?_) (fun c13 => absurd ((not_congr (nI_leI (a := nb) (b := i) (by omega) (by omega))).mp c13) (by omega))
      have c13 := (nI_leI (a := nb) (b := i) (by omega) (by omega)).mp c13
      refine k_lload_n E 2 rfl rfl dX2_meanPay_62 ?_
      refine k_lconst E (v := 0) (by decide) dX2_meanPay_63 ?_
      refine k_lcmp E dX2_meanPay_64 ?_
      refine k_if_gt E (tgt := 78) (by decide) dX2_meanPay_65 (fun c65 => absurd c65 (Int32.not_lt.mpr (by rw [hy, show i = nb by omega]; exact h0))) (fun c65 => ?_)
      exact k_throw (cls := "java/lang/ArithmeticException") (text := "no batch has all its grades") (names := ["java/lang/RuntimeException", "java/lang/Exception"]) (ic := 224) E hlt hlk hex hZ rfl rfl rfl (by decide +kernel) (by decide +kernel) q_658 q_16 (by decide +kernel) gx_ArithmeticException bx_ArithmeticException ox_ArithmeticException dX2_meanPay_68 dX2_meanPay_71 dX2_meanPay_72 dX2_meanPay_74 dX2_meanPay_77 (by decide) (Nat.le_of_ble_eq_true rfl) (by decide) (by decide) (by decide) (by decide)
    | succ dn7 ih7 =>
      intro i x y hd7 hx hy
      refine k_iload E 3 rfl dX2_meanPay_7 ?_
      refine k_aload_n E 0 rfl rfl dX2_meanPay_9 ?_
      refine k_get E inX2 0 rfl rfl 8 (by decide) q_100 rfl rfl dX2_meanPay_10 ?_
      refine k_icmp_ge E (tgt := 62) (by decide) dX2_meanPay_13 (fun c13 => absurd ((nI_leI (a := nb) (b := i) (by omega) (by omega)).mp c13) (by omega)) (fun c13 => ?_)
      have c13 := (not_congr (nI_leI (a := nb) (b := i) (by omega) (by omega))).mp c13
      refine k_aload_n E 0 rfl rfl dX2_meanPay_16 ?_
      refine k_get E inX2 0 rfl rfl 7 (by decide) q_99 rfl rfl dX2_meanPay_17 ?_
      refine k_iload E 3 rfl dX2_meanPay_20 ?_
      refine k_callRVN [.int (nI i)] E (m_X1_isGraded l D k (a 8) (a 9) (a 10) (a 11) (a 12) (a 13) (a 14) (a 15) n farm amount mark place number paid blamed (nI i) (by first | assumption | omega)) cf_X1_isGraded rfl (by decide +kernel) [14, 15, 16, 17, 18, 19, 20, 21] rfl 14 rfl rfl rfl rfl ⟨by decide, by decide⟩ (Nat.le_of_ble_eq_true rfl) ⟨by decide, by decide⟩ dX2_meanPay_22 ?_
      refine k_steq (st' := [.int (kB (grB mark place number (nI i) n))]) rfl ?_
      refine k_if_eq E (tgt := 56) (by decide) dX2_meanPay_25 (fun c25 => ?_) (fun c25 => ?_)
      · skip
        have c25 := kB_f c25
        refine k_iinc (q := 3) (v := nI (i + 1)) (lv' := [(5, .int (nI (i + 1))), (0, .ref (a 0)), (1, .long x), (3, .long y)]) E rfl (nI_inc _) (by decide) rfl dX2_meanPay_56 ?_
        refine k_goto E (tgt := 7) (by decide) dX2_meanPay_59 ?_
        refine k_lv [1, 2, 3, 0] rfl ?_
        exact ih7 (i + 1) x y (by omega) (by rw [hx]; simp only [sL]; simp [c25]) (by rw [hy]; simp only [sL]; simp [c25])
      · skip
        have c25 := kB_t c25
        refine k_lload_n E 1 rfl rfl dX2_meanPay_28 ?_
        refine k_aload_n E 0 rfl rfl dX2_meanPay_29 ?_
        refine k_get E inX2 0 rfl rfl 7 (by decide) q_99 rfl rfl dX2_meanPay_30 ?_
        refine k_iload E 3 rfl dX2_meanPay_33 ?_
        refine k_callRVN [.int (nI i)] E (m_X1_payOfAll l D k (a 8) (a 9) (a 10) (a 11) (a 12) (a 13) (a 14) (a 15) n farm amount mark place number paid blamed (nI i) (by first | assumption | omega)) cf_X1_payOfAll rfl (by decide +kernel) [14, 15, 16, 17, 18, 19, 20, 21] rfl 14 rfl rfl rfl rfl ⟨by decide, by decide⟩ (Nat.le_of_ble_eq_true rfl) ⟨by decide, by decide⟩ dX2_meanPay_35 ?_
        refine k_steq (st' := [.int (payB mark place number amount (nI i) n), .long x]) rfl ?_
        refine k_i2l E (v := (payB mark place number amount (nI i) n).toInt64) rfl dX2_meanPay_38 ?_
        refine k_ladd E dX2_meanPay_39 ?_
        refine k_lstore_n (lv' := [(1, .long (x + ((payB mark place number amount (nI i) n).toInt64))), (0, .ref (a 0)), (3, .long y), (5, .int (nI i))]) E rfl (by decide) rfl dX2_meanPay_40 ?_
        refine k_lload_n E 2 rfl rfl dX2_meanPay_41 ?_
        refine k_aload_n E 1 rfl rfl dX2_meanPay_42 ?_
        refine k_get E inX2 0 rfl rfl 7 (by decide) q_99 rfl rfl dX2_meanPay_43 ?_
        refine k_bipush E (v := 98) (by decide) dX2_meanPay_46 ?_
        refine k_iload E 3 rfl dX2_meanPay_48 ?_
        refine k_callRVN [.int 98, .int (nI i)] E (m_X1_litresIn l D k (a 8) (a 9) (a 10) (a 11) (a 12) (a 13) (a 14) (a 15) n farm amount mark place number paid blamed 98 (nI i) (by first | assumption | omega)) cf_X1_litresIn rfl (by decide +kernel) [14, 15, 16, 17, 18, 19, 20, 21] rfl 14 rfl rfl rfl rfl ⟨by decide, by decide⟩ (Nat.le_of_ble_eq_true rfl) ⟨by decide, by decide⟩ dX2_meanPay_50 ?_
        refine k_steq (st' := [.int (sI (cIn place number 98 (nI i)) amount n), .long y]) rfl ?_
        refine k_i2l E (v := (sI (cIn place number 98 (nI i)) amount n).toInt64) rfl dX2_meanPay_53 ?_
        refine k_ladd E dX2_meanPay_54 ?_
        refine k_lstore_n (lv' := [(3, .long (y + ((sI (cIn place number 98 (nI i)) amount n).toInt64))), (1, .long (x + ((payB mark place number amount (nI i) n).toInt64))), (0, .ref (a 0)), (5, .int (nI i))]) E rfl (by decide) rfl dX2_meanPay_55 ?_
        refine k_iinc (q := 3) (v := nI (i + 1)) (lv' := [(5, .int (nI (i + 1))), (3, .long (y + ((sI (cIn place number 98 (nI i)) amount n).toInt64))), (1, .long (x + ((payB mark place number amount (nI i) n).toInt64))), (0, .ref (a 0))]) E rfl (nI_inc _) (by decide) rfl dX2_meanPay_56 ?_
        refine k_goto E (tgt := 7) (by decide) dX2_meanPay_59 ?_
        refine k_lv [3, 2, 1, 0] rfl ?_
        exact ih7 (i + 1) (x + ((payB mark place number amount (nI i) n).toInt64)) (y + ((sI (cIn place number 98 (nI i)) amount n).toInt64)) (by omega) (by rw [hx]; simp only [sL]; simp [c25]) (by rw [hy]; simp only [sL]; simp [c25])
  refine k_lconst E (v := 0) (by decide) dX2_meanPay_0 ?_
  refine k_lstore_n (lv' := [(1, .long 0), (0, .ref (a 0))]) E rfl (by decide) rfl dX2_meanPay_1 ?_
  refine k_lconst E (v := 0) (by decide) dX2_meanPay_2 ?_
  refine k_lstore_n (lv' := [(3, .long 0), (1, .long 0), (0, .ref (a 0))]) E rfl (by decide) rfl dX2_meanPay_3 ?_
  refine k_iconst E (v := 0) (by decide) dX2_meanPay_4 ?_
  refine k_istore (lv' := [(5, .int 0), (3, .long 0), (1, .long 0), (0, .ref (a 0))]) E (by decide) rfl dX2_meanPay_5 ?_
  refine k_lv [3, 2, 1, 0] rfl ?_
  exact L7 (nb - 0) 0 0 0 (by omega) rfl rfl
