theorem fm_mid (pre Wc post : va_W) : (List.range' pre.length Wc.length).filterMap (fun i => (pre ++ (Wc ++ post))[i]?) = Wc := by
  induction Wc generalizing pre with
  | nil => rfl
  | cons x t ih =>
    have h1 : (pre ++ (x :: t ++ post))[pre.length]? = some x := by simp
    have h2 := ih (pre ++ [x])
    simp only [List.append_assoc, List.length_append, List.length_cons, List.length_nil] at h2
    rw [List.length_cons, List.range'_succ, List.filterMap_cons, h1]
    simpa using h2
theorem he_l {Wc : va_W} {x : Nat × va_E} {y : Nat × va_E} (h : Wc[0]? = some x) : (Wc ++ [y])[0]? = some x := by
  rw [List.getElem?_append_left (List.getElem?_eq_some_iff.mp h).1]
  exact h
abbrev oL (k : Nat → ClassId) (ao : Nat) (f : Nat → Int64) : Nat × va_E := (ao, .inl (k 3, 1, .inr (.inl f)))
abbrev oD (k : Nat → ClassId) (ao : Nat) (f : Nat → UInt64) : Nat × va_E := (ao, .inl (k 4, 1, .inr (.inr (.inr (.inl f)))))
set_option maxRecDepth 100000 in
theorem w_addFarm {f lo : Nat} (l : Launch) (D : va_G) (k : Nat → ClassId) (ao b : Nat) (lf : Nat → Int64) (x0 : Int32) (Wc : va_W) {fs : List Value} (hf : f ≤ 12) (hlo : lo ≤ 600) (he : Wc[0]? = some (b, .inr (2, fs))) (v : Int32) (hM : mR l yX2_addFarm cX2_addFarm 2 (some .int) f lo D (kTy k) [.ref b, .int x0] Wc (some (.int v))) : mH l yL_addFarm cL_addFarm 4 (some .int) [(0, 9, 12, 13), (0, 9, 15, 15)] 14 700 4 24 D (kTy k) [.ref b, .int x0, .ref ao] (oL k ao lf :: Wc) (.inl (some (.int 0), (oL k ao (vp_updL lf 0 v.toInt64) :: Wc))) := by
  refine mH.of (lv' := [(0, .ref b), (1, .int x0), (2, .ref ao)]) (by decide) (Nat.le_of_ble_eq_true rfl) rfl ?_
  intro p e s m args below meth c E hr hlk htab hZ hA
  refine k_aload_n E 2 rfl rfl dL_addFarm_0 ?_
  refine k_iconst E (v := 0) (by decide) dL_addFarm_1 ?_
  refine k_aload_n E 0 rfl rfl dL_addFarm_2 ?_
  refine k_iload_n E 1 rfl rfl dL_addFarm_3 ?_
  refine k_callRV [.int x0] E hM cf_X2_addFarm q_149 (List.range' 1 Wc.length) (by have q9 := fm_mid [oL k ao lf] Wc []; simpa using q9) 1 he rfl rfl rfl ⟨show f + 1 ≤ 14 by omega, show 8 + (2 + 11) + lo ≤ 700 by omega⟩ (Nat.le_of_ble_eq_true rfl) ⟨by decide, by decide⟩ dL_addFarm_4 ?_
  refine k_i2l E (v := v.toInt64) rfl dL_addFarm_7 ?_
  refine k_last E (ws' := (oL k ao (vp_updL lf 0 v.toInt64) :: Wc)) 0 3 rfl rfl (j := 0) rfl (by decide) (by decide) rfl dL_addFarm_8 ?_
  refine k_goto E (tgt := 18) (by decide) dL_addFarm_9 ?_
  refine k_iconst E (v := 0) (by decide) dL_addFarm_18 ?_
  exact kx_iret E hr hlk rfl rfl rfl (by omega) (by omega) dL_addFarm_19
set_option maxRecDepth 100000 in
theorem w_addFarm_w {f lo mc ms : Nat} (l : Launch) (D : va_G) (k : Nat → ClassId) (ao b : Nat) (lf : Nat → Int64) (x0 : Int32) (Wc : va_W) {fs : List Value} (hf : f ≤ 12) (hlo : lo ≤ 600) (hmc : mc ≤ 4) (hms : ms ≤ 24) (he : Wc[0]? = some (b, .inr (2, fs))) (v : Int32) (W1 : va_W) (hM : mW l yX2_addFarm cX2_addFarm 2 (some .int) f lo mc ms D (kTy k) [.ref b, .int x0] Wc (some (.int v)) W1) : mH l yL_addFarm cL_addFarm 4 (some .int) [(0, 9, 12, 13), (0, 9, 15, 15)] 14 700 4 24 D (kTy k) [.ref b, .int x0, .ref ao] (oL k ao lf :: Wc) (.inl (some (.int 0), (oL k ao (vp_updL lf 0 v.toInt64) :: W1))) := by
  refine mH.of (lv' := [(0, .ref b), (1, .int x0), (2, .ref ao)]) (by decide) (Nat.le_of_ble_eq_true rfl) rfl ?_
  intro p e s m args below meth c E hr hlk htab hZ hA
  refine k_aload_n E 2 rfl rfl dL_addFarm_0 ?_
  refine k_iconst E (v := 0) (by decide) dL_addFarm_1 ?_
  refine k_aload_n E 0 rfl rfl dL_addFarm_2 ?_
  refine k_iload_n E 1 rfl rfl dL_addFarm_3 ?_
  refine k_callWV [.int x0] E hA hM cf_X2_addFarm q_149 [oL k ao lf] [] (ws' := oL k ao lf :: W1) (by simp) (by simp) 1 he rfl rfl rfl ⟨show f + 1 ≤ 14 by omega, show 8 + (2 + 11) + lo ≤ 700 by omega⟩ (Nat.le_of_ble_eq_true rfl) ⟨show 0 + mc ≤ 4 by omega, show 0 + ms ≤ 24 by omega⟩ dL_addFarm_4 ?_
  refine k_i2l E (v := v.toInt64) rfl dL_addFarm_7 ?_
  refine k_last E (ws' := (oL k ao (vp_updL lf 0 v.toInt64) :: W1)) 0 3 rfl rfl (j := 0) rfl (by decide) (by decide) rfl dL_addFarm_8 ?_
  refine k_goto E (tgt := 18) (by decide) dL_addFarm_9 ?_
  refine k_iconst E (v := 0) (by decide) dL_addFarm_18 ?_
  exact kx_iret E hr hlk rfl rfl rfl (by omega) (by omega) dL_addFarm_19
set_option maxRecDepth 100000 in
theorem w_addFarm_a {f lo mc ms : Nat} (l : Launch) (D : va_G) (k : Nat → ClassId) (ao b : Nat) (lf : Nat → Int64) (x0 : Int32) (Wc : va_W) {fs : List Value} (hf : f ≤ 12) (hlo : lo ≤ 600) (hmc : mc ≤ 4) (hms : ms ≤ 24) (he : Wc[0]? = some (b, .inr (2, fs))) (hM : mX l yX2_addFarm cX2_addFarm 2 (some .int) f lo mc ms D (kTy k) [.ref b, .int x0] Wc (.inr "java/lang/IllegalArgumentException")) : mH l yL_addFarm cL_addFarm 4 (some .int) [(0, 9, 12, 13), (0, 9, 15, 15)] 14 700 4 24 D (kTy k) [.ref b, .int x0, .ref ao] (oL k ao lf :: Wc) (.inl (some (.int 1), (oL k ao lf :: Wc))) := by
  refine mH.of (lv' := [(0, .ref b), (1, .int x0), (2, .ref ao)]) (by decide) (Nat.le_of_ble_eq_true rfl) rfl ?_
  intro p e s m args below meth c E hr hlk htab hZ hA
  refine k_aload_n E 2 rfl rfl dL_addFarm_0 ?_
  refine k_iconst E (v := 0) (by decide) dL_addFarm_1 ?_
  refine k_aload_n E 0 rfl rfl dL_addFarm_2 ?_
  refine k_iload_n E 1 rfl rfl dL_addFarm_3 ?_
  refine k_callXV [.int x0] E hA hZ hM cf_X2_addFarm q_149 [oL k ao lf] [] (by simp) 1 he rfl rfl rfl ⟨show f + 1 ≤ 14 by omega, show 8 + (2 + 11) + lo ≤ 700 by omega⟩ (Nat.le_of_ble_eq_true rfl) ⟨show 0 + mc ≤ 4 by omega, show 0 + ms ≤ 24 by omega⟩ dL_addFarm_4 (fun v W1 q => nomatch q) (fun X q => ?_)
  cases q
  refine k_xcatch E htab (tableOf []) (⟨0, 9, 12, 13⟩ : ExceptionTableEntry) (tableOf [(0, 9, 15, 15)]) rfl (fun z hz => ?_) (by decide) (by decide) q_147 (by decide +kernel) (fun q => ?_)
  · exact nomatch hz
  refine k_astore_n (lv' := [(3, .ref q), (0, .ref b), (1, .int x0), (2, .ref ao)]) E rfl (by decide) rfl dL_addFarm_12 ?_
  refine k_iconst E (v := 1) (by decide) dL_addFarm_13 ?_
  exact kx_iret E hr hlk rfl rfl rfl (by omega) (by omega) dL_addFarm_14
set_option maxRecDepth 100000 in
theorem w_addFarm_s {f lo mc ms : Nat} (l : Launch) (D : va_G) (k : Nat → ClassId) (ao b : Nat) (lf : Nat → Int64) (x0 : Int32) (Wc : va_W) {fs : List Value} (hf : f ≤ 12) (hlo : lo ≤ 600) (hmc : mc ≤ 4) (hms : ms ≤ 24) (he : Wc[0]? = some (b, .inr (2, fs))) (hM : mX l yX2_addFarm cX2_addFarm 2 (some .int) f lo mc ms D (kTy k) [.ref b, .int x0] Wc (.inr "java/lang/IllegalStateException")) : mH l yL_addFarm cL_addFarm 4 (some .int) [(0, 9, 12, 13), (0, 9, 15, 15)] 14 700 4 24 D (kTy k) [.ref b, .int x0, .ref ao] (oL k ao lf :: Wc) (.inl (some (.int 2), (oL k ao lf :: Wc))) := by
  refine mH.of (lv' := [(0, .ref b), (1, .int x0), (2, .ref ao)]) (by decide) (Nat.le_of_ble_eq_true rfl) rfl ?_
  intro p e s m args below meth c E hr hlk htab hZ hA
  refine k_aload_n E 2 rfl rfl dL_addFarm_0 ?_
  refine k_iconst E (v := 0) (by decide) dL_addFarm_1 ?_
  refine k_aload_n E 0 rfl rfl dL_addFarm_2 ?_
  refine k_iload_n E 1 rfl rfl dL_addFarm_3 ?_
  refine k_callXV [.int x0] E hA hZ hM cf_X2_addFarm q_149 [oL k ao lf] [] (by simp) 1 he rfl rfl rfl ⟨show f + 1 ≤ 14 by omega, show 8 + (2 + 11) + lo ≤ 700 by omega⟩ (Nat.le_of_ble_eq_true rfl) ⟨show 0 + mc ≤ 4 by omega, show 0 + ms ≤ 24 by omega⟩ dL_addFarm_4 (fun v W1 q => nomatch q) (fun X q => ?_)
  cases q
  refine k_xcatch E htab (tableOf [(0, 9, 12, 13)]) (⟨0, 9, 15, 15⟩ : ExceptionTableEntry) (tableOf []) rfl (fun z hz => ?_) (by decide) (by decide) q_148 (by decide +kernel) (fun q => ?_)
  · exact List.mem_cons.mp hz |>.elim (fun q => q ▸ Or.inr ⟨by decide, _, q_147, by decide +kernel⟩) (fun hz => nomatch hz)
  refine k_astore_n (lv' := [(3, .ref q), (0, .ref b), (1, .int x0), (2, .ref ao)]) E rfl (by decide) rfl dL_addFarm_15 ?_
  refine k_iconst E (v := 2) (by decide) dL_addFarm_16 ?_
  exact kx_iret E hr hlk rfl rfl rfl (by omega) (by omega) dL_addFarm_17
set_option maxRecDepth 100000 in
theorem w_addCow {f lo : Nat} (l : Launch) (D : va_G) (k : Nat → ClassId) (ao b : Nat) (lf : Nat → Int64) (x0 : Int32) (x1 : Int32) (Wc : va_W) {fs : List Value} (hf : f ≤ 12) (hlo : lo ≤ 600) (he : Wc[0]? = some (b, .inr (2, fs))) (v : Int32) (hM : mR l yX2_addCow cX2_addCow 3 (some .int) f lo D (kTy k) [.ref b, .int x0, .int x1] Wc (some (.int v))) : mH l yL_addCow cL_addCow 5 (some .int) [(0, 10, 13, 21), (0, 10, 17, 13), (0, 10, 21, 15)] 14 700 4 24 D (kTy k) [.ref b, .int x0, .int x1, .ref ao] (oL k ao lf :: Wc) (.inl (some (.int 0), (oL k ao (vp_updL lf 0 v.toInt64) :: Wc))) := by
  refine mH.of (lv' := [(0, .ref b), (1, .int x0), (2, .int x1), (3, .ref ao)]) (by decide) (Nat.le_of_ble_eq_true rfl) rfl ?_
  intro p e s m args below meth c E hr hlk htab hZ hA
  refine k_aload_n E 3 rfl rfl dL_addCow_0 ?_
  refine k_iconst E (v := 0) (by decide) dL_addCow_1 ?_
  refine k_aload_n E 0 rfl rfl dL_addCow_2 ?_
  refine k_iload_n E 1 rfl rfl dL_addCow_3 ?_
  refine k_iload_n E 2 rfl rfl dL_addCow_4 ?_
  refine k_callRV [.int x0, .int x1] E hM cf_X2_addCow q_272 (List.range' 1 Wc.length) (by have q9 := fm_mid [oL k ao lf] Wc []; simpa using q9) 1 he rfl rfl rfl ⟨show f + 1 ≤ 14 by omega, show 8 + (3 + 11) + lo ≤ 700 by omega⟩ (Nat.le_of_ble_eq_true rfl) ⟨by decide, by decide⟩ dL_addCow_5 ?_
  refine k_i2l E (v := v.toInt64) rfl dL_addCow_8 ?_
  refine k_last E (ws' := (oL k ao (vp_updL lf 0 v.toInt64) :: Wc)) 0 3 rfl rfl (j := 0) rfl (by decide) (by decide) rfl dL_addCow_9 ?_
  refine k_goto E (tgt := 25) (by decide) dL_addCow_10 ?_
  refine k_iconst E (v := 0) (by decide) dL_addCow_25 ?_
  exact kx_iret E hr hlk rfl rfl rfl (by omega) (by omega) dL_addCow_26
set_option maxRecDepth 100000 in
theorem w_addCow_w {f lo mc ms : Nat} (l : Launch) (D : va_G) (k : Nat → ClassId) (ao b : Nat) (lf : Nat → Int64) (x0 : Int32) (x1 : Int32) (Wc : va_W) {fs : List Value} (hf : f ≤ 12) (hlo : lo ≤ 600) (hmc : mc ≤ 4) (hms : ms ≤ 24) (he : Wc[0]? = some (b, .inr (2, fs))) (v : Int32) (W1 : va_W) (hM : mW l yX2_addCow cX2_addCow 3 (some .int) f lo mc ms D (kTy k) [.ref b, .int x0, .int x1] Wc (some (.int v)) W1) : mH l yL_addCow cL_addCow 5 (some .int) [(0, 10, 13, 21), (0, 10, 17, 13), (0, 10, 21, 15)] 14 700 4 24 D (kTy k) [.ref b, .int x0, .int x1, .ref ao] (oL k ao lf :: Wc) (.inl (some (.int 0), (oL k ao (vp_updL lf 0 v.toInt64) :: W1))) := by
  refine mH.of (lv' := [(0, .ref b), (1, .int x0), (2, .int x1), (3, .ref ao)]) (by decide) (Nat.le_of_ble_eq_true rfl) rfl ?_
  intro p e s m args below meth c E hr hlk htab hZ hA
  refine k_aload_n E 3 rfl rfl dL_addCow_0 ?_
  refine k_iconst E (v := 0) (by decide) dL_addCow_1 ?_
  refine k_aload_n E 0 rfl rfl dL_addCow_2 ?_
  refine k_iload_n E 1 rfl rfl dL_addCow_3 ?_
  refine k_iload_n E 2 rfl rfl dL_addCow_4 ?_
  refine k_callWV [.int x0, .int x1] E hA hM cf_X2_addCow q_272 [oL k ao lf] [] (ws' := oL k ao lf :: W1) (by simp) (by simp) 1 he rfl rfl rfl ⟨show f + 1 ≤ 14 by omega, show 8 + (3 + 11) + lo ≤ 700 by omega⟩ (Nat.le_of_ble_eq_true rfl) ⟨show 0 + mc ≤ 4 by omega, show 0 + ms ≤ 24 by omega⟩ dL_addCow_5 ?_
  refine k_i2l E (v := v.toInt64) rfl dL_addCow_8 ?_
  refine k_last E (ws' := (oL k ao (vp_updL lf 0 v.toInt64) :: W1)) 0 3 rfl rfl (j := 0) rfl (by decide) (by decide) rfl dL_addCow_9 ?_
  refine k_goto E (tgt := 25) (by decide) dL_addCow_10 ?_
  refine k_iconst E (v := 0) (by decide) dL_addCow_25 ?_
  exact kx_iret E hr hlk rfl rfl rfl (by omega) (by omega) dL_addCow_26
set_option maxRecDepth 100000 in
theorem w_addCow_i {f lo mc ms : Nat} (l : Launch) (D : va_G) (k : Nat → ClassId) (ao b : Nat) (lf : Nat → Int64) (x0 : Int32) (x1 : Int32) (Wc : va_W) {fs : List Value} (hf : f ≤ 12) (hlo : lo ≤ 600) (hmc : mc ≤ 4) (hms : ms ≤ 24) (he : Wc[0]? = some (b, .inr (2, fs))) (hM : mX l yX2_addCow cX2_addCow 3 (some .int) f lo mc ms D (kTy k) [.ref b, .int x0, .int x1] Wc (.inr "java/lang/IndexOutOfBoundsException")) : mH l yL_addCow cL_addCow 5 (some .int) [(0, 10, 13, 21), (0, 10, 17, 13), (0, 10, 21, 15)] 14 700 4 24 D (kTy k) [.ref b, .int x0, .int x1, .ref ao] (oL k ao lf :: Wc) (.inl (some (.int 1), (oL k ao lf :: Wc))) := by
  refine mH.of (lv' := [(0, .ref b), (1, .int x0), (2, .int x1), (3, .ref ao)]) (by decide) (Nat.le_of_ble_eq_true rfl) rfl ?_
  intro p e s m args below meth c E hr hlk htab hZ hA
  refine k_aload_n E 3 rfl rfl dL_addCow_0 ?_
  refine k_iconst E (v := 0) (by decide) dL_addCow_1 ?_
  refine k_aload_n E 0 rfl rfl dL_addCow_2 ?_
  refine k_iload_n E 1 rfl rfl dL_addCow_3 ?_
  refine k_iload_n E 2 rfl rfl dL_addCow_4 ?_
  refine k_callXV [.int x0, .int x1] E hA hZ hM cf_X2_addCow q_272 [oL k ao lf] [] (by simp) 1 he rfl rfl rfl ⟨show f + 1 ≤ 14 by omega, show 8 + (3 + 11) + lo ≤ 700 by omega⟩ (Nat.le_of_ble_eq_true rfl) ⟨show 0 + mc ≤ 4 by omega, show 0 + ms ≤ 24 by omega⟩ dL_addCow_5 (fun v W1 q => nomatch q) (fun X q => ?_)
  cases q
  refine k_xcatch E htab (tableOf []) (⟨0, 10, 13, 21⟩ : ExceptionTableEntry) (tableOf [(0, 10, 17, 13), (0, 10, 21, 15)]) rfl (fun z hz => ?_) (by decide) (by decide) q_248 (by decide +kernel) (fun q => ?_)
  · exact nomatch hz
  refine k_astore (lv' := [(4, .ref q), (0, .ref b), (1, .int x0), (2, .int x1), (3, .ref ao)]) E (by decide) rfl dL_addCow_13 ?_
  refine k_iconst E (v := 1) (by decide) dL_addCow_15 ?_
  exact kx_iret E hr hlk rfl rfl rfl (by omega) (by omega) dL_addCow_16
set_option maxRecDepth 100000 in
theorem w_addCow_a {f lo mc ms : Nat} (l : Launch) (D : va_G) (k : Nat → ClassId) (ao b : Nat) (lf : Nat → Int64) (x0 : Int32) (x1 : Int32) (Wc : va_W) {fs : List Value} (hf : f ≤ 12) (hlo : lo ≤ 600) (hmc : mc ≤ 4) (hms : ms ≤ 24) (he : Wc[0]? = some (b, .inr (2, fs))) (hM : mX l yX2_addCow cX2_addCow 3 (some .int) f lo mc ms D (kTy k) [.ref b, .int x0, .int x1] Wc (.inr "java/lang/IllegalArgumentException")) : mH l yL_addCow cL_addCow 5 (some .int) [(0, 10, 13, 21), (0, 10, 17, 13), (0, 10, 21, 15)] 14 700 4 24 D (kTy k) [.ref b, .int x0, .int x1, .ref ao] (oL k ao lf :: Wc) (.inl (some (.int 2), (oL k ao lf :: Wc))) := by
  refine mH.of (lv' := [(0, .ref b), (1, .int x0), (2, .int x1), (3, .ref ao)]) (by decide) (Nat.le_of_ble_eq_true rfl) rfl ?_
  intro p e s m args below meth c E hr hlk htab hZ hA
  refine k_aload_n E 3 rfl rfl dL_addCow_0 ?_
  refine k_iconst E (v := 0) (by decide) dL_addCow_1 ?_
  refine k_aload_n E 0 rfl rfl dL_addCow_2 ?_
  refine k_iload_n E 1 rfl rfl dL_addCow_3 ?_
  refine k_iload_n E 2 rfl rfl dL_addCow_4 ?_
  refine k_callXV [.int x0, .int x1] E hA hZ hM cf_X2_addCow q_272 [oL k ao lf] [] (by simp) 1 he rfl rfl rfl ⟨show f + 1 ≤ 14 by omega, show 8 + (3 + 11) + lo ≤ 700 by omega⟩ (Nat.le_of_ble_eq_true rfl) ⟨show 0 + mc ≤ 4 by omega, show 0 + ms ≤ 24 by omega⟩ dL_addCow_5 (fun v W1 q => nomatch q) (fun X q => ?_)
  cases q
  refine k_xcatch E htab (tableOf [(0, 10, 13, 21)]) (⟨0, 10, 17, 13⟩ : ExceptionTableEntry) (tableOf [(0, 10, 21, 15)]) rfl (fun z hz => ?_) (by decide) (by decide) q_147 (by decide +kernel) (fun q => ?_)
  · exact List.mem_cons.mp hz |>.elim (fun q => q ▸ Or.inr ⟨by decide, _, q_248, by decide +kernel⟩) (fun hz => nomatch hz)
  refine k_astore (lv' := [(4, .ref q), (0, .ref b), (1, .int x0), (2, .int x1), (3, .ref ao)]) E (by decide) rfl dL_addCow_17 ?_
  refine k_iconst E (v := 2) (by decide) dL_addCow_19 ?_
  exact kx_iret E hr hlk rfl rfl rfl (by omega) (by omega) dL_addCow_20
set_option maxRecDepth 100000 in
theorem w_addCow_s {f lo mc ms : Nat} (l : Launch) (D : va_G) (k : Nat → ClassId) (ao b : Nat) (lf : Nat → Int64) (x0 : Int32) (x1 : Int32) (Wc : va_W) {fs : List Value} (hf : f ≤ 12) (hlo : lo ≤ 600) (hmc : mc ≤ 4) (hms : ms ≤ 24) (he : Wc[0]? = some (b, .inr (2, fs))) (hM : mX l yX2_addCow cX2_addCow 3 (some .int) f lo mc ms D (kTy k) [.ref b, .int x0, .int x1] Wc (.inr "java/lang/IllegalStateException")) : mH l yL_addCow cL_addCow 5 (some .int) [(0, 10, 13, 21), (0, 10, 17, 13), (0, 10, 21, 15)] 14 700 4 24 D (kTy k) [.ref b, .int x0, .int x1, .ref ao] (oL k ao lf :: Wc) (.inl (some (.int 3), (oL k ao lf :: Wc))) := by
  refine mH.of (lv' := [(0, .ref b), (1, .int x0), (2, .int x1), (3, .ref ao)]) (by decide) (Nat.le_of_ble_eq_true rfl) rfl ?_
  intro p e s m args below meth c E hr hlk htab hZ hA
  refine k_aload_n E 3 rfl rfl dL_addCow_0 ?_
  refine k_iconst E (v := 0) (by decide) dL_addCow_1 ?_
  refine k_aload_n E 0 rfl rfl dL_addCow_2 ?_
  refine k_iload_n E 1 rfl rfl dL_addCow_3 ?_
  refine k_iload_n E 2 rfl rfl dL_addCow_4 ?_
  refine k_callXV [.int x0, .int x1] E hA hZ hM cf_X2_addCow q_272 [oL k ao lf] [] (by simp) 1 he rfl rfl rfl ⟨show f + 1 ≤ 14 by omega, show 8 + (3 + 11) + lo ≤ 700 by omega⟩ (Nat.le_of_ble_eq_true rfl) ⟨show 0 + mc ≤ 4 by omega, show 0 + ms ≤ 24 by omega⟩ dL_addCow_5 (fun v W1 q => nomatch q) (fun X q => ?_)
  cases q
  refine k_xcatch E htab (tableOf [(0, 10, 13, 21), (0, 10, 17, 13)]) (⟨0, 10, 21, 15⟩ : ExceptionTableEntry) (tableOf []) rfl (fun z hz => ?_) (by decide) (by decide) q_148 (by decide +kernel) (fun q => ?_)
  · exact List.mem_cons.mp hz |>.elim (fun q => q ▸ Or.inr ⟨by decide, _, q_248, by decide +kernel⟩) (fun hz => List.mem_cons.mp hz |>.elim (fun q => q ▸ Or.inr ⟨by decide, _, q_147, by decide +kernel⟩) (fun hz => nomatch hz))
  refine k_astore (lv' := [(4, .ref q), (0, .ref b), (1, .int x0), (2, .int x1), (3, .ref ao)]) E (by decide) rfl dL_addCow_21 ?_
  refine k_iconst E (v := 3) (by decide) dL_addCow_23 ?_
  exact kx_iret E hr hlk rfl rfl rfl (by omega) (by omega) dL_addCow_24
set_option maxRecDepth 100000 in
theorem w_milkOf {f lo : Nat} (l : Launch) (D : va_G) (k : Nat → ClassId) (ao b : Nat) (lf : Nat → Int64) (x0 : Int32) (x1 : Int32) (Wc : va_W) {fs : List Value} (hf : f ≤ 12) (hlo : lo ≤ 600) (he : Wc[0]? = some (b, .inr (2, fs))) (v : Int32) (hM : mR l yX2_milkOf cX2_milkOf 3 (some .int) f lo D (kTy k) [.ref b, .int x0, .int x1] Wc (some (.int v))) : mH l yL_milkOf cL_milkOf 5 (some .int) [(0, 10, 13, 21), (0, 10, 17, 13)] 14 700 4 24 D (kTy k) [.ref b, .int x0, .int x1, .ref ao] (oL k ao lf :: Wc) (.inl (some (.int 0), (oL k ao (vp_updL lf 0 v.toInt64) :: Wc))) := by
  refine mH.of (lv' := [(0, .ref b), (1, .int x0), (2, .int x1), (3, .ref ao)]) (by decide) (Nat.le_of_ble_eq_true rfl) rfl ?_
  intro p e s m args below meth c E hr hlk htab hZ hA
  refine k_aload_n E 3 rfl rfl dL_milkOf_0 ?_
  refine k_iconst E (v := 0) (by decide) dL_milkOf_1 ?_
  refine k_aload_n E 0 rfl rfl dL_milkOf_2 ?_
  refine k_iload_n E 1 rfl rfl dL_milkOf_3 ?_
  refine k_iload_n E 2 rfl rfl dL_milkOf_4 ?_
  refine k_callRV [.int x0, .int x1] E hM cf_X2_milkOf q_302 (List.range' 1 Wc.length) (by have q9 := fm_mid [oL k ao lf] Wc []; simpa using q9) 1 he rfl rfl rfl ⟨show f + 1 ≤ 14 by omega, show 8 + (3 + 11) + lo ≤ 700 by omega⟩ (Nat.le_of_ble_eq_true rfl) ⟨by decide, by decide⟩ dL_milkOf_5 ?_
  refine k_i2l E (v := v.toInt64) rfl dL_milkOf_8 ?_
  refine k_last E (ws' := (oL k ao (vp_updL lf 0 v.toInt64) :: Wc)) 0 3 rfl rfl (j := 0) rfl (by decide) (by decide) rfl dL_milkOf_9 ?_
  refine k_goto E (tgt := 21) (by decide) dL_milkOf_10 ?_
  refine k_iconst E (v := 0) (by decide) dL_milkOf_21 ?_
  exact kx_iret E hr hlk rfl rfl rfl (by omega) (by omega) dL_milkOf_22
set_option maxRecDepth 100000 in
theorem w_milkOf_w {f lo mc ms : Nat} (l : Launch) (D : va_G) (k : Nat → ClassId) (ao b : Nat) (lf : Nat → Int64) (x0 : Int32) (x1 : Int32) (Wc : va_W) {fs : List Value} (hf : f ≤ 12) (hlo : lo ≤ 600) (hmc : mc ≤ 4) (hms : ms ≤ 24) (he : Wc[0]? = some (b, .inr (2, fs))) (v : Int32) (W1 : va_W) (hM : mW l yX2_milkOf cX2_milkOf 3 (some .int) f lo mc ms D (kTy k) [.ref b, .int x0, .int x1] Wc (some (.int v)) W1) : mH l yL_milkOf cL_milkOf 5 (some .int) [(0, 10, 13, 21), (0, 10, 17, 13)] 14 700 4 24 D (kTy k) [.ref b, .int x0, .int x1, .ref ao] (oL k ao lf :: Wc) (.inl (some (.int 0), (oL k ao (vp_updL lf 0 v.toInt64) :: W1))) := by
  refine mH.of (lv' := [(0, .ref b), (1, .int x0), (2, .int x1), (3, .ref ao)]) (by decide) (Nat.le_of_ble_eq_true rfl) rfl ?_
  intro p e s m args below meth c E hr hlk htab hZ hA
  refine k_aload_n E 3 rfl rfl dL_milkOf_0 ?_
  refine k_iconst E (v := 0) (by decide) dL_milkOf_1 ?_
  refine k_aload_n E 0 rfl rfl dL_milkOf_2 ?_
  refine k_iload_n E 1 rfl rfl dL_milkOf_3 ?_
  refine k_iload_n E 2 rfl rfl dL_milkOf_4 ?_
  refine k_callWV [.int x0, .int x1] E hA hM cf_X2_milkOf q_302 [oL k ao lf] [] (ws' := oL k ao lf :: W1) (by simp) (by simp) 1 he rfl rfl rfl ⟨show f + 1 ≤ 14 by omega, show 8 + (3 + 11) + lo ≤ 700 by omega⟩ (Nat.le_of_ble_eq_true rfl) ⟨show 0 + mc ≤ 4 by omega, show 0 + ms ≤ 24 by omega⟩ dL_milkOf_5 ?_
  refine k_i2l E (v := v.toInt64) rfl dL_milkOf_8 ?_
  refine k_last E (ws' := (oL k ao (vp_updL lf 0 v.toInt64) :: W1)) 0 3 rfl rfl (j := 0) rfl (by decide) (by decide) rfl dL_milkOf_9 ?_
  refine k_goto E (tgt := 21) (by decide) dL_milkOf_10 ?_
  refine k_iconst E (v := 0) (by decide) dL_milkOf_21 ?_
  exact kx_iret E hr hlk rfl rfl rfl (by omega) (by omega) dL_milkOf_22
set_option maxRecDepth 100000 in
theorem w_milkOf_i {f lo mc ms : Nat} (l : Launch) (D : va_G) (k : Nat → ClassId) (ao b : Nat) (lf : Nat → Int64) (x0 : Int32) (x1 : Int32) (Wc : va_W) {fs : List Value} (hf : f ≤ 12) (hlo : lo ≤ 600) (hmc : mc ≤ 4) (hms : ms ≤ 24) (he : Wc[0]? = some (b, .inr (2, fs))) (hM : mX l yX2_milkOf cX2_milkOf 3 (some .int) f lo mc ms D (kTy k) [.ref b, .int x0, .int x1] Wc (.inr "java/lang/IndexOutOfBoundsException")) : mH l yL_milkOf cL_milkOf 5 (some .int) [(0, 10, 13, 21), (0, 10, 17, 13)] 14 700 4 24 D (kTy k) [.ref b, .int x0, .int x1, .ref ao] (oL k ao lf :: Wc) (.inl (some (.int 1), (oL k ao lf :: Wc))) := by
  refine mH.of (lv' := [(0, .ref b), (1, .int x0), (2, .int x1), (3, .ref ao)]) (by decide) (Nat.le_of_ble_eq_true rfl) rfl ?_
  intro p e s m args below meth c E hr hlk htab hZ hA
  refine k_aload_n E 3 rfl rfl dL_milkOf_0 ?_
  refine k_iconst E (v := 0) (by decide) dL_milkOf_1 ?_
  refine k_aload_n E 0 rfl rfl dL_milkOf_2 ?_
  refine k_iload_n E 1 rfl rfl dL_milkOf_3 ?_
  refine k_iload_n E 2 rfl rfl dL_milkOf_4 ?_
  refine k_callXV [.int x0, .int x1] E hA hZ hM cf_X2_milkOf q_302 [oL k ao lf] [] (by simp) 1 he rfl rfl rfl ⟨show f + 1 ≤ 14 by omega, show 8 + (3 + 11) + lo ≤ 700 by omega⟩ (Nat.le_of_ble_eq_true rfl) ⟨show 0 + mc ≤ 4 by omega, show 0 + ms ≤ 24 by omega⟩ dL_milkOf_5 (fun v W1 q => nomatch q) (fun X q => ?_)
  cases q
  refine k_xcatch E htab (tableOf []) (⟨0, 10, 13, 21⟩ : ExceptionTableEntry) (tableOf [(0, 10, 17, 13)]) rfl (fun z hz => ?_) (by decide) (by decide) q_248 (by decide +kernel) (fun q => ?_)
  · exact nomatch hz
  refine k_astore (lv' := [(4, .ref q), (0, .ref b), (1, .int x0), (2, .int x1), (3, .ref ao)]) E (by decide) rfl dL_milkOf_13 ?_
  refine k_iconst E (v := 1) (by decide) dL_milkOf_15 ?_
  exact kx_iret E hr hlk rfl rfl rfl (by omega) (by omega) dL_milkOf_16
set_option maxRecDepth 100000 in
theorem w_milkOf_a {f lo mc ms : Nat} (l : Launch) (D : va_G) (k : Nat → ClassId) (ao b : Nat) (lf : Nat → Int64) (x0 : Int32) (x1 : Int32) (Wc : va_W) {fs : List Value} (hf : f ≤ 12) (hlo : lo ≤ 600) (hmc : mc ≤ 4) (hms : ms ≤ 24) (he : Wc[0]? = some (b, .inr (2, fs))) (hM : mX l yX2_milkOf cX2_milkOf 3 (some .int) f lo mc ms D (kTy k) [.ref b, .int x0, .int x1] Wc (.inr "java/lang/IllegalArgumentException")) : mH l yL_milkOf cL_milkOf 5 (some .int) [(0, 10, 13, 21), (0, 10, 17, 13)] 14 700 4 24 D (kTy k) [.ref b, .int x0, .int x1, .ref ao] (oL k ao lf :: Wc) (.inl (some (.int 2), (oL k ao lf :: Wc))) := by
  refine mH.of (lv' := [(0, .ref b), (1, .int x0), (2, .int x1), (3, .ref ao)]) (by decide) (Nat.le_of_ble_eq_true rfl) rfl ?_
  intro p e s m args below meth c E hr hlk htab hZ hA
  refine k_aload_n E 3 rfl rfl dL_milkOf_0 ?_
  refine k_iconst E (v := 0) (by decide) dL_milkOf_1 ?_
  refine k_aload_n E 0 rfl rfl dL_milkOf_2 ?_
  refine k_iload_n E 1 rfl rfl dL_milkOf_3 ?_
  refine k_iload_n E 2 rfl rfl dL_milkOf_4 ?_
  refine k_callXV [.int x0, .int x1] E hA hZ hM cf_X2_milkOf q_302 [oL k ao lf] [] (by simp) 1 he rfl rfl rfl ⟨show f + 1 ≤ 14 by omega, show 8 + (3 + 11) + lo ≤ 700 by omega⟩ (Nat.le_of_ble_eq_true rfl) ⟨show 0 + mc ≤ 4 by omega, show 0 + ms ≤ 24 by omega⟩ dL_milkOf_5 (fun v W1 q => nomatch q) (fun X q => ?_)
  cases q
  refine k_xcatch E htab (tableOf [(0, 10, 13, 21)]) (⟨0, 10, 17, 13⟩ : ExceptionTableEntry) (tableOf []) rfl (fun z hz => ?_) (by decide) (by decide) q_147 (by decide +kernel) (fun q => ?_)
  · exact List.mem_cons.mp hz |>.elim (fun q => q ▸ Or.inr ⟨by decide, _, q_248, by decide +kernel⟩) (fun hz => nomatch hz)
  refine k_astore (lv' := [(4, .ref q), (0, .ref b), (1, .int x0), (2, .int x1), (3, .ref ao)]) E (by decide) rfl dL_milkOf_17 ?_
  refine k_iconst E (v := 2) (by decide) dL_milkOf_19 ?_
  exact kx_iret E hr hlk rfl rfl rfl (by omega) (by omega) dL_milkOf_20
set_option maxRecDepth 100000 in
theorem w_inTank {f lo : Nat} (l : Launch) (D : va_G) (k : Nat → ClassId) (ao b : Nat) (lf : Nat → Int64) (x0 : Int32) (Wc : va_W) {fs : List Value} (hf : f ≤ 12) (hlo : lo ≤ 600) (he : Wc[0]? = some (b, .inr (2, fs))) (v : Int32) (hM : mR l yX2_inTank cX2_inTank 2 (some .int) f lo D (kTy k) [.ref b, .int x0] Wc (some (.int v))) : mH l yL_inTank cL_inTank 4 (some .int) [(0, 9, 12, 21)] 14 700 4 24 D (kTy k) [.ref b, .int x0, .ref ao] (oL k ao lf :: Wc) (.inl (some (.int 0), (oL k ao (vp_updL lf 0 v.toInt64) :: Wc))) := by
  refine mH.of (lv' := [(0, .ref b), (1, .int x0), (2, .ref ao)]) (by decide) (Nat.le_of_ble_eq_true rfl) rfl ?_
  intro p e s m args below meth c E hr hlk htab hZ hA
  refine k_aload_n E 2 rfl rfl dL_inTank_0 ?_
  refine k_iconst E (v := 0) (by decide) dL_inTank_1 ?_
  refine k_aload_n E 0 rfl rfl dL_inTank_2 ?_
  refine k_iload_n E 1 rfl rfl dL_inTank_3 ?_
  refine k_callRV [.int x0] E hM cf_X2_inTank q_323 (List.range' 1 Wc.length) (by have q9 := fm_mid [oL k ao lf] Wc []; simpa using q9) 1 he rfl rfl rfl ⟨show f + 1 ≤ 14 by omega, show 8 + (2 + 11) + lo ≤ 700 by omega⟩ (Nat.le_of_ble_eq_true rfl) ⟨by decide, by decide⟩ dL_inTank_4 ?_
  refine k_i2l E (v := v.toInt64) rfl dL_inTank_7 ?_
  refine k_last E (ws' := (oL k ao (vp_updL lf 0 v.toInt64) :: Wc)) 0 3 rfl rfl (j := 0) rfl (by decide) (by decide) rfl dL_inTank_8 ?_
  refine k_goto E (tgt := 15) (by decide) dL_inTank_9 ?_
  refine k_iconst E (v := 0) (by decide) dL_inTank_15 ?_
  exact kx_iret E hr hlk rfl rfl rfl (by omega) (by omega) dL_inTank_16
set_option maxRecDepth 100000 in
theorem w_inTank_w {f lo mc ms : Nat} (l : Launch) (D : va_G) (k : Nat → ClassId) (ao b : Nat) (lf : Nat → Int64) (x0 : Int32) (Wc : va_W) {fs : List Value} (hf : f ≤ 12) (hlo : lo ≤ 600) (hmc : mc ≤ 4) (hms : ms ≤ 24) (he : Wc[0]? = some (b, .inr (2, fs))) (v : Int32) (W1 : va_W) (hM : mW l yX2_inTank cX2_inTank 2 (some .int) f lo mc ms D (kTy k) [.ref b, .int x0] Wc (some (.int v)) W1) : mH l yL_inTank cL_inTank 4 (some .int) [(0, 9, 12, 21)] 14 700 4 24 D (kTy k) [.ref b, .int x0, .ref ao] (oL k ao lf :: Wc) (.inl (some (.int 0), (oL k ao (vp_updL lf 0 v.toInt64) :: W1))) := by
  refine mH.of (lv' := [(0, .ref b), (1, .int x0), (2, .ref ao)]) (by decide) (Nat.le_of_ble_eq_true rfl) rfl ?_
  intro p e s m args below meth c E hr hlk htab hZ hA
  refine k_aload_n E 2 rfl rfl dL_inTank_0 ?_
  refine k_iconst E (v := 0) (by decide) dL_inTank_1 ?_
  refine k_aload_n E 0 rfl rfl dL_inTank_2 ?_
  refine k_iload_n E 1 rfl rfl dL_inTank_3 ?_
  refine k_callWV [.int x0] E hA hM cf_X2_inTank q_323 [oL k ao lf] [] (ws' := oL k ao lf :: W1) (by simp) (by simp) 1 he rfl rfl rfl ⟨show f + 1 ≤ 14 by omega, show 8 + (2 + 11) + lo ≤ 700 by omega⟩ (Nat.le_of_ble_eq_true rfl) ⟨show 0 + mc ≤ 4 by omega, show 0 + ms ≤ 24 by omega⟩ dL_inTank_4 ?_
  refine k_i2l E (v := v.toInt64) rfl dL_inTank_7 ?_
  refine k_last E (ws' := (oL k ao (vp_updL lf 0 v.toInt64) :: W1)) 0 3 rfl rfl (j := 0) rfl (by decide) (by decide) rfl dL_inTank_8 ?_
  refine k_goto E (tgt := 15) (by decide) dL_inTank_9 ?_
  refine k_iconst E (v := 0) (by decide) dL_inTank_15 ?_
  exact kx_iret E hr hlk rfl rfl rfl (by omega) (by omega) dL_inTank_16
set_option maxRecDepth 100000 in
theorem w_inTank_i {f lo mc ms : Nat} (l : Launch) (D : va_G) (k : Nat → ClassId) (ao b : Nat) (lf : Nat → Int64) (x0 : Int32) (Wc : va_W) {fs : List Value} (hf : f ≤ 12) (hlo : lo ≤ 600) (hmc : mc ≤ 4) (hms : ms ≤ 24) (he : Wc[0]? = some (b, .inr (2, fs))) (hM : mX l yX2_inTank cX2_inTank 2 (some .int) f lo mc ms D (kTy k) [.ref b, .int x0] Wc (.inr "java/lang/IndexOutOfBoundsException")) : mH l yL_inTank cL_inTank 4 (some .int) [(0, 9, 12, 21)] 14 700 4 24 D (kTy k) [.ref b, .int x0, .ref ao] (oL k ao lf :: Wc) (.inl (some (.int 1), (oL k ao lf :: Wc))) := by
  refine mH.of (lv' := [(0, .ref b), (1, .int x0), (2, .ref ao)]) (by decide) (Nat.le_of_ble_eq_true rfl) rfl ?_
  intro p e s m args below meth c E hr hlk htab hZ hA
  refine k_aload_n E 2 rfl rfl dL_inTank_0 ?_
  refine k_iconst E (v := 0) (by decide) dL_inTank_1 ?_
  refine k_aload_n E 0 rfl rfl dL_inTank_2 ?_
  refine k_iload_n E 1 rfl rfl dL_inTank_3 ?_
  refine k_callXV [.int x0] E hA hZ hM cf_X2_inTank q_323 [oL k ao lf] [] (by simp) 1 he rfl rfl rfl ⟨show f + 1 ≤ 14 by omega, show 8 + (2 + 11) + lo ≤ 700 by omega⟩ (Nat.le_of_ble_eq_true rfl) ⟨show 0 + mc ≤ 4 by omega, show 0 + ms ≤ 24 by omega⟩ dL_inTank_4 (fun v W1 q => nomatch q) (fun X q => ?_)
  cases q
  refine k_xcatch E htab (tableOf []) (⟨0, 9, 12, 21⟩ : ExceptionTableEntry) (tableOf []) rfl (fun z hz => ?_) (by decide) (by decide) q_248 (by decide +kernel) (fun q => ?_)
  · exact nomatch hz
  refine k_astore_n (lv' := [(3, .ref q), (0, .ref b), (1, .int x0), (2, .ref ao)]) E rfl (by decide) rfl dL_inTank_12 ?_
  refine k_iconst E (v := 1) (by decide) dL_inTank_13 ?_
  exact kx_iret E hr hlk rfl rfl rfl (by omega) (by omega) dL_inTank_14
set_option maxRecDepth 100000 in
theorem w_pass {f lo : Nat} (l : Launch) (D : va_G) (k : Nat → ClassId) (ao b : Nat) (lf : Nat → Int64) (x0 : Int32) (Wc : va_W) {fs : List Value} (hf : f ≤ 12) (hlo : lo ≤ 600) (he : Wc[0]? = some (b, .inr (2, fs))) (v : Int32) (hM : mR l yX2_pass cX2_pass 4 (some .int) f lo D (kTy k) [.ref b, .int x0] Wc (some (.int v))) : mH l yL_pass cL_pass 4 (some .int) [(0, 9, 12, 13)] 14 700 4 24 D (kTy k) [.ref b, .int x0, .ref ao] (oL k ao lf :: Wc) (.inl (some (.int 0), (oL k ao (vp_updL lf 0 v.toInt64) :: Wc))) := by
  refine mH.of (lv' := [(0, .ref b), (1, .int x0), (2, .ref ao)]) (by decide) (Nat.le_of_ble_eq_true rfl) rfl ?_
  intro p e s m args below meth c E hr hlk htab hZ hA
  refine k_aload_n E 2 rfl rfl dL_pass_0 ?_
  refine k_iconst E (v := 0) (by decide) dL_pass_1 ?_
  refine k_aload_n E 0 rfl rfl dL_pass_2 ?_
  refine k_iload_n E 1 rfl rfl dL_pass_3 ?_
  refine k_callRV [.int x0] E hM cf_X2_pass q_330 (List.range' 1 Wc.length) (by have q9 := fm_mid [oL k ao lf] Wc []; simpa using q9) 1 he rfl rfl rfl ⟨show f + 1 ≤ 14 by omega, show 8 + (4 + 11) + lo ≤ 700 by omega⟩ (Nat.le_of_ble_eq_true rfl) ⟨by decide, by decide⟩ dL_pass_4 ?_
  refine k_i2l E (v := v.toInt64) rfl dL_pass_7 ?_
  refine k_last E (ws' := (oL k ao (vp_updL lf 0 v.toInt64) :: Wc)) 0 3 rfl rfl (j := 0) rfl (by decide) (by decide) rfl dL_pass_8 ?_
  refine k_goto E (tgt := 15) (by decide) dL_pass_9 ?_
  refine k_iconst E (v := 0) (by decide) dL_pass_15 ?_
  exact kx_iret E hr hlk rfl rfl rfl (by omega) (by omega) dL_pass_16
set_option maxRecDepth 100000 in
theorem w_pass_w {f lo mc ms : Nat} (l : Launch) (D : va_G) (k : Nat → ClassId) (ao b : Nat) (lf : Nat → Int64) (x0 : Int32) (Wc : va_W) {fs : List Value} (hf : f ≤ 12) (hlo : lo ≤ 600) (hmc : mc ≤ 4) (hms : ms ≤ 24) (he : Wc[0]? = some (b, .inr (2, fs))) (v : Int32) (W1 : va_W) (hM : mW l yX2_pass cX2_pass 4 (some .int) f lo mc ms D (kTy k) [.ref b, .int x0] Wc (some (.int v)) W1) : mH l yL_pass cL_pass 4 (some .int) [(0, 9, 12, 13)] 14 700 4 24 D (kTy k) [.ref b, .int x0, .ref ao] (oL k ao lf :: Wc) (.inl (some (.int 0), (oL k ao (vp_updL lf 0 v.toInt64) :: W1))) := by
  refine mH.of (lv' := [(0, .ref b), (1, .int x0), (2, .ref ao)]) (by decide) (Nat.le_of_ble_eq_true rfl) rfl ?_
  intro p e s m args below meth c E hr hlk htab hZ hA
  refine k_aload_n E 2 rfl rfl dL_pass_0 ?_
  refine k_iconst E (v := 0) (by decide) dL_pass_1 ?_
  refine k_aload_n E 0 rfl rfl dL_pass_2 ?_
  refine k_iload_n E 1 rfl rfl dL_pass_3 ?_
  refine k_callWV [.int x0] E hA hM cf_X2_pass q_330 [oL k ao lf] [] (ws' := oL k ao lf :: W1) (by simp) (by simp) 1 he rfl rfl rfl ⟨show f + 1 ≤ 14 by omega, show 8 + (4 + 11) + lo ≤ 700 by omega⟩ (Nat.le_of_ble_eq_true rfl) ⟨show 0 + mc ≤ 4 by omega, show 0 + ms ≤ 24 by omega⟩ dL_pass_4 ?_
  refine k_i2l E (v := v.toInt64) rfl dL_pass_7 ?_
  refine k_last E (ws' := (oL k ao (vp_updL lf 0 v.toInt64) :: W1)) 0 3 rfl rfl (j := 0) rfl (by decide) (by decide) rfl dL_pass_8 ?_
  refine k_goto E (tgt := 15) (by decide) dL_pass_9 ?_
  refine k_iconst E (v := 0) (by decide) dL_pass_15 ?_
  exact kx_iret E hr hlk rfl rfl rfl (by omega) (by omega) dL_pass_16
set_option maxRecDepth 100000 in
theorem w_pass_a {f lo mc ms : Nat} (l : Launch) (D : va_G) (k : Nat → ClassId) (ao b : Nat) (lf : Nat → Int64) (x0 : Int32) (Wc : va_W) {fs : List Value} (hf : f ≤ 12) (hlo : lo ≤ 600) (hmc : mc ≤ 4) (hms : ms ≤ 24) (he : Wc[0]? = some (b, .inr (2, fs))) (hM : mX l yX2_pass cX2_pass 4 (some .int) f lo mc ms D (kTy k) [.ref b, .int x0] Wc (.inr "java/lang/IllegalArgumentException")) : mH l yL_pass cL_pass 4 (some .int) [(0, 9, 12, 13)] 14 700 4 24 D (kTy k) [.ref b, .int x0, .ref ao] (oL k ao lf :: Wc) (.inl (some (.int 1), (oL k ao lf :: Wc))) := by
  refine mH.of (lv' := [(0, .ref b), (1, .int x0), (2, .ref ao)]) (by decide) (Nat.le_of_ble_eq_true rfl) rfl ?_
  intro p e s m args below meth c E hr hlk htab hZ hA
  refine k_aload_n E 2 rfl rfl dL_pass_0 ?_
  refine k_iconst E (v := 0) (by decide) dL_pass_1 ?_
  refine k_aload_n E 0 rfl rfl dL_pass_2 ?_
  refine k_iload_n E 1 rfl rfl dL_pass_3 ?_
  refine k_callXV [.int x0] E hA hZ hM cf_X2_pass q_330 [oL k ao lf] [] (by simp) 1 he rfl rfl rfl ⟨show f + 1 ≤ 14 by omega, show 8 + (4 + 11) + lo ≤ 700 by omega⟩ (Nat.le_of_ble_eq_true rfl) ⟨show 0 + mc ≤ 4 by omega, show 0 + ms ≤ 24 by omega⟩ dL_pass_4 (fun v W1 q => nomatch q) (fun X q => ?_)
  cases q
  refine k_xcatch E htab (tableOf []) (⟨0, 9, 12, 13⟩ : ExceptionTableEntry) (tableOf []) rfl (fun z hz => ?_) (by decide) (by decide) q_147 (by decide +kernel) (fun q => ?_)
  · exact nomatch hz
  refine k_astore_n (lv' := [(3, .ref q), (0, .ref b), (1, .int x0), (2, .ref ao)]) E rfl (by decide) rfl dL_pass_12 ?_
  refine k_iconst E (v := 1) (by decide) dL_pass_13 ?_
  exact kx_iret E hr hlk rfl rfl rfl (by omega) (by omega) dL_pass_14
set_option maxRecDepth 100000 in
theorem w_addVat {f lo : Nat} (l : Launch) (D : va_G) (k : Nat → ClassId) (ao b : Nat) (lf : Nat → Int64) (x0 : Int32) (Wc : va_W) {fs : List Value} (hf : f ≤ 12) (hlo : lo ≤ 600) (he : Wc[0]? = some (b, .inr (2, fs))) (v : Int32) (hM : mR l yX2_addVat cX2_addVat 2 (some .int) f lo D (kTy k) [.ref b, .int x0] Wc (some (.int v))) : mH l yL_addVat cL_addVat 4 (some .int) [(0, 9, 12, 13), (0, 9, 15, 15)] 14 700 4 24 D (kTy k) [.ref b, .int x0, .ref ao] (oL k ao lf :: Wc) (.inl (some (.int 0), (oL k ao (vp_updL lf 0 v.toInt64) :: Wc))) := by
  refine mH.of (lv' := [(0, .ref b), (1, .int x0), (2, .ref ao)]) (by decide) (Nat.le_of_ble_eq_true rfl) rfl ?_
  intro p e s m args below meth c E hr hlk htab hZ hA
  refine k_aload_n E 2 rfl rfl dL_addVat_0 ?_
  refine k_iconst E (v := 0) (by decide) dL_addVat_1 ?_
  refine k_aload_n E 0 rfl rfl dL_addVat_2 ?_
  refine k_iload_n E 1 rfl rfl dL_addVat_3 ?_
  refine k_callRV [.int x0] E hM cf_X2_addVat q_346 (List.range' 1 Wc.length) (by have q9 := fm_mid [oL k ao lf] Wc []; simpa using q9) 1 he rfl rfl rfl ⟨show f + 1 ≤ 14 by omega, show 8 + (2 + 11) + lo ≤ 700 by omega⟩ (Nat.le_of_ble_eq_true rfl) ⟨by decide, by decide⟩ dL_addVat_4 ?_
  refine k_i2l E (v := v.toInt64) rfl dL_addVat_7 ?_
  refine k_last E (ws' := (oL k ao (vp_updL lf 0 v.toInt64) :: Wc)) 0 3 rfl rfl (j := 0) rfl (by decide) (by decide) rfl dL_addVat_8 ?_
  refine k_goto E (tgt := 18) (by decide) dL_addVat_9 ?_
  refine k_iconst E (v := 0) (by decide) dL_addVat_18 ?_
  exact kx_iret E hr hlk rfl rfl rfl (by omega) (by omega) dL_addVat_19
set_option maxRecDepth 100000 in
theorem w_addVat_w {f lo mc ms : Nat} (l : Launch) (D : va_G) (k : Nat → ClassId) (ao b : Nat) (lf : Nat → Int64) (x0 : Int32) (Wc : va_W) {fs : List Value} (hf : f ≤ 12) (hlo : lo ≤ 600) (hmc : mc ≤ 4) (hms : ms ≤ 24) (he : Wc[0]? = some (b, .inr (2, fs))) (v : Int32) (W1 : va_W) (hM : mW l yX2_addVat cX2_addVat 2 (some .int) f lo mc ms D (kTy k) [.ref b, .int x0] Wc (some (.int v)) W1) : mH l yL_addVat cL_addVat 4 (some .int) [(0, 9, 12, 13), (0, 9, 15, 15)] 14 700 4 24 D (kTy k) [.ref b, .int x0, .ref ao] (oL k ao lf :: Wc) (.inl (some (.int 0), (oL k ao (vp_updL lf 0 v.toInt64) :: W1))) := by
  refine mH.of (lv' := [(0, .ref b), (1, .int x0), (2, .ref ao)]) (by decide) (Nat.le_of_ble_eq_true rfl) rfl ?_
  intro p e s m args below meth c E hr hlk htab hZ hA
  refine k_aload_n E 2 rfl rfl dL_addVat_0 ?_
  refine k_iconst E (v := 0) (by decide) dL_addVat_1 ?_
  refine k_aload_n E 0 rfl rfl dL_addVat_2 ?_
  refine k_iload_n E 1 rfl rfl dL_addVat_3 ?_
  refine k_callWV [.int x0] E hA hM cf_X2_addVat q_346 [oL k ao lf] [] (ws' := oL k ao lf :: W1) (by simp) (by simp) 1 he rfl rfl rfl ⟨show f + 1 ≤ 14 by omega, show 8 + (2 + 11) + lo ≤ 700 by omega⟩ (Nat.le_of_ble_eq_true rfl) ⟨show 0 + mc ≤ 4 by omega, show 0 + ms ≤ 24 by omega⟩ dL_addVat_4 ?_
  refine k_i2l E (v := v.toInt64) rfl dL_addVat_7 ?_
  refine k_last E (ws' := (oL k ao (vp_updL lf 0 v.toInt64) :: W1)) 0 3 rfl rfl (j := 0) rfl (by decide) (by decide) rfl dL_addVat_8 ?_
  refine k_goto E (tgt := 18) (by decide) dL_addVat_9 ?_
  refine k_iconst E (v := 0) (by decide) dL_addVat_18 ?_
  exact kx_iret E hr hlk rfl rfl rfl (by omega) (by omega) dL_addVat_19
set_option maxRecDepth 100000 in
theorem w_addVat_a {f lo mc ms : Nat} (l : Launch) (D : va_G) (k : Nat → ClassId) (ao b : Nat) (lf : Nat → Int64) (x0 : Int32) (Wc : va_W) {fs : List Value} (hf : f ≤ 12) (hlo : lo ≤ 600) (hmc : mc ≤ 4) (hms : ms ≤ 24) (he : Wc[0]? = some (b, .inr (2, fs))) (hM : mX l yX2_addVat cX2_addVat 2 (some .int) f lo mc ms D (kTy k) [.ref b, .int x0] Wc (.inr "java/lang/IllegalArgumentException")) : mH l yL_addVat cL_addVat 4 (some .int) [(0, 9, 12, 13), (0, 9, 15, 15)] 14 700 4 24 D (kTy k) [.ref b, .int x0, .ref ao] (oL k ao lf :: Wc) (.inl (some (.int 1), (oL k ao lf :: Wc))) := by
  refine mH.of (lv' := [(0, .ref b), (1, .int x0), (2, .ref ao)]) (by decide) (Nat.le_of_ble_eq_true rfl) rfl ?_
  intro p e s m args below meth c E hr hlk htab hZ hA
  refine k_aload_n E 2 rfl rfl dL_addVat_0 ?_
  refine k_iconst E (v := 0) (by decide) dL_addVat_1 ?_
  refine k_aload_n E 0 rfl rfl dL_addVat_2 ?_
  refine k_iload_n E 1 rfl rfl dL_addVat_3 ?_
  refine k_callXV [.int x0] E hA hZ hM cf_X2_addVat q_346 [oL k ao lf] [] (by simp) 1 he rfl rfl rfl ⟨show f + 1 ≤ 14 by omega, show 8 + (2 + 11) + lo ≤ 700 by omega⟩ (Nat.le_of_ble_eq_true rfl) ⟨show 0 + mc ≤ 4 by omega, show 0 + ms ≤ 24 by omega⟩ dL_addVat_4 (fun v W1 q => nomatch q) (fun X q => ?_)
  cases q
  refine k_xcatch E htab (tableOf []) (⟨0, 9, 12, 13⟩ : ExceptionTableEntry) (tableOf [(0, 9, 15, 15)]) rfl (fun z hz => ?_) (by decide) (by decide) q_147 (by decide +kernel) (fun q => ?_)
  · exact nomatch hz
  refine k_astore_n (lv' := [(3, .ref q), (0, .ref b), (1, .int x0), (2, .ref ao)]) E rfl (by decide) rfl dL_addVat_12 ?_
  refine k_iconst E (v := 1) (by decide) dL_addVat_13 ?_
  exact kx_iret E hr hlk rfl rfl rfl (by omega) (by omega) dL_addVat_14
set_option maxRecDepth 100000 in
theorem w_addVat_s {f lo mc ms : Nat} (l : Launch) (D : va_G) (k : Nat → ClassId) (ao b : Nat) (lf : Nat → Int64) (x0 : Int32) (Wc : va_W) {fs : List Value} (hf : f ≤ 12) (hlo : lo ≤ 600) (hmc : mc ≤ 4) (hms : ms ≤ 24) (he : Wc[0]? = some (b, .inr (2, fs))) (hM : mX l yX2_addVat cX2_addVat 2 (some .int) f lo mc ms D (kTy k) [.ref b, .int x0] Wc (.inr "java/lang/IllegalStateException")) : mH l yL_addVat cL_addVat 4 (some .int) [(0, 9, 12, 13), (0, 9, 15, 15)] 14 700 4 24 D (kTy k) [.ref b, .int x0, .ref ao] (oL k ao lf :: Wc) (.inl (some (.int 2), (oL k ao lf :: Wc))) := by
  refine mH.of (lv' := [(0, .ref b), (1, .int x0), (2, .ref ao)]) (by decide) (Nat.le_of_ble_eq_true rfl) rfl ?_
  intro p e s m args below meth c E hr hlk htab hZ hA
  refine k_aload_n E 2 rfl rfl dL_addVat_0 ?_
  refine k_iconst E (v := 0) (by decide) dL_addVat_1 ?_
  refine k_aload_n E 0 rfl rfl dL_addVat_2 ?_
  refine k_iload_n E 1 rfl rfl dL_addVat_3 ?_
  refine k_callXV [.int x0] E hA hZ hM cf_X2_addVat q_346 [oL k ao lf] [] (by simp) 1 he rfl rfl rfl ⟨show f + 1 ≤ 14 by omega, show 8 + (2 + 11) + lo ≤ 700 by omega⟩ (Nat.le_of_ble_eq_true rfl) ⟨show 0 + mc ≤ 4 by omega, show 0 + ms ≤ 24 by omega⟩ dL_addVat_4 (fun v W1 q => nomatch q) (fun X q => ?_)
  cases q
  refine k_xcatch E htab (tableOf [(0, 9, 12, 13)]) (⟨0, 9, 15, 15⟩ : ExceptionTableEntry) (tableOf []) rfl (fun z hz => ?_) (by decide) (by decide) q_148 (by decide +kernel) (fun q => ?_)
  · exact List.mem_cons.mp hz |>.elim (fun q => q ▸ Or.inr ⟨by decide, _, q_147, by decide +kernel⟩) (fun hz => nomatch hz)
  refine k_astore_n (lv' := [(3, .ref q), (0, .ref b), (1, .int x0), (2, .ref ao)]) E rfl (by decide) rfl dL_addVat_15 ?_
  refine k_iconst E (v := 2) (by decide) dL_addVat_16 ?_
  exact kx_iret E hr hlk rfl rfl rfl (by omega) (by omega) dL_addVat_17
set_option maxRecDepth 100000 in
theorem w_beginRound {f lo : Nat} (l : Launch) (D : va_G) (k : Nat → ClassId) (ao b : Nat) (lf : Nat → Int64) (Wc : va_W) {fs : List Value} (hf : f ≤ 12) (hlo : lo ≤ 600) (he : Wc[0]? = some (b, .inr (2, fs))) (v : Int32) (hM : mR l yX2_beginRound cX2_beginRound 2 (some .int) f lo D (kTy k) [.ref b] Wc (some (.int v))) : mH l yL_beginRound cL_beginRound 3 (some .int) [(0, 8, 11, 15)] 14 700 4 24 D (kTy k) [.ref b, .ref ao] (oL k ao lf :: Wc) (.inl (some (.int 0), (oL k ao (vp_updL lf 0 v.toInt64) :: Wc))) := by
  refine mH.of (lv' := [(0, .ref b), (1, .ref ao)]) (by decide) (Nat.le_of_ble_eq_true rfl) rfl ?_
  intro p e s m args below meth c E hr hlk htab hZ hA
  refine k_aload_n E 1 rfl rfl dL_beginRound_0 ?_
  refine k_iconst E (v := 0) (by decide) dL_beginRound_1 ?_
  refine k_aload_n E 0 rfl rfl dL_beginRound_2 ?_
  refine k_callRV [] E hM cf_X2_beginRound q_355 (List.range' 1 Wc.length) (by have q9 := fm_mid [oL k ao lf] Wc []; simpa using q9) 1 he rfl rfl rfl ⟨show f + 1 ≤ 14 by omega, show 8 + (2 + 11) + lo ≤ 700 by omega⟩ (Nat.le_of_ble_eq_true rfl) ⟨by decide, by decide⟩ dL_beginRound_3 ?_
  refine k_i2l E (v := v.toInt64) rfl dL_beginRound_6 ?_
  refine k_last E (ws' := (oL k ao (vp_updL lf 0 v.toInt64) :: Wc)) 0 3 rfl rfl (j := 0) rfl (by decide) (by decide) rfl dL_beginRound_7 ?_
  refine k_goto E (tgt := 14) (by decide) dL_beginRound_8 ?_
  refine k_iconst E (v := 0) (by decide) dL_beginRound_14 ?_
  exact kx_iret E hr hlk rfl rfl rfl (by omega) (by omega) dL_beginRound_15
set_option maxRecDepth 100000 in
theorem w_beginRound_w {f lo mc ms : Nat} (l : Launch) (D : va_G) (k : Nat → ClassId) (ao b : Nat) (lf : Nat → Int64) (Wc : va_W) {fs : List Value} (hf : f ≤ 12) (hlo : lo ≤ 600) (hmc : mc ≤ 4) (hms : ms ≤ 24) (he : Wc[0]? = some (b, .inr (2, fs))) (v : Int32) (W1 : va_W) (hM : mW l yX2_beginRound cX2_beginRound 2 (some .int) f lo mc ms D (kTy k) [.ref b] Wc (some (.int v)) W1) : mH l yL_beginRound cL_beginRound 3 (some .int) [(0, 8, 11, 15)] 14 700 4 24 D (kTy k) [.ref b, .ref ao] (oL k ao lf :: Wc) (.inl (some (.int 0), (oL k ao (vp_updL lf 0 v.toInt64) :: W1))) := by
  refine mH.of (lv' := [(0, .ref b), (1, .ref ao)]) (by decide) (Nat.le_of_ble_eq_true rfl) rfl ?_
  intro p e s m args below meth c E hr hlk htab hZ hA
  refine k_aload_n E 1 rfl rfl dL_beginRound_0 ?_
  refine k_iconst E (v := 0) (by decide) dL_beginRound_1 ?_
  refine k_aload_n E 0 rfl rfl dL_beginRound_2 ?_
  refine k_callWV [] E hA hM cf_X2_beginRound q_355 [oL k ao lf] [] (ws' := oL k ao lf :: W1) (by simp) (by simp) 1 he rfl rfl rfl ⟨show f + 1 ≤ 14 by omega, show 8 + (2 + 11) + lo ≤ 700 by omega⟩ (Nat.le_of_ble_eq_true rfl) ⟨show 0 + mc ≤ 4 by omega, show 0 + ms ≤ 24 by omega⟩ dL_beginRound_3 ?_
  refine k_i2l E (v := v.toInt64) rfl dL_beginRound_6 ?_
  refine k_last E (ws' := (oL k ao (vp_updL lf 0 v.toInt64) :: W1)) 0 3 rfl rfl (j := 0) rfl (by decide) (by decide) rfl dL_beginRound_7 ?_
  refine k_goto E (tgt := 14) (by decide) dL_beginRound_8 ?_
  refine k_iconst E (v := 0) (by decide) dL_beginRound_14 ?_
  exact kx_iret E hr hlk rfl rfl rfl (by omega) (by omega) dL_beginRound_15
set_option maxRecDepth 100000 in
theorem w_beginRound_s {f lo mc ms : Nat} (l : Launch) (D : va_G) (k : Nat → ClassId) (ao b : Nat) (lf : Nat → Int64) (Wc : va_W) {fs : List Value} (hf : f ≤ 12) (hlo : lo ≤ 600) (hmc : mc ≤ 4) (hms : ms ≤ 24) (he : Wc[0]? = some (b, .inr (2, fs))) (hM : mX l yX2_beginRound cX2_beginRound 2 (some .int) f lo mc ms D (kTy k) [.ref b] Wc (.inr "java/lang/IllegalStateException")) : mH l yL_beginRound cL_beginRound 3 (some .int) [(0, 8, 11, 15)] 14 700 4 24 D (kTy k) [.ref b, .ref ao] (oL k ao lf :: Wc) (.inl (some (.int 1), (oL k ao lf :: Wc))) := by
  refine mH.of (lv' := [(0, .ref b), (1, .ref ao)]) (by decide) (Nat.le_of_ble_eq_true rfl) rfl ?_
  intro p e s m args below meth c E hr hlk htab hZ hA
  refine k_aload_n E 1 rfl rfl dL_beginRound_0 ?_
  refine k_iconst E (v := 0) (by decide) dL_beginRound_1 ?_
  refine k_aload_n E 0 rfl rfl dL_beginRound_2 ?_
  refine k_callXV [] E hA hZ hM cf_X2_beginRound q_355 [oL k ao lf] [] (by simp) 1 he rfl rfl rfl ⟨show f + 1 ≤ 14 by omega, show 8 + (2 + 11) + lo ≤ 700 by omega⟩ (Nat.le_of_ble_eq_true rfl) ⟨show 0 + mc ≤ 4 by omega, show 0 + ms ≤ 24 by omega⟩ dL_beginRound_3 (fun v W1 q => nomatch q) (fun X q => ?_)
  cases q
  refine k_xcatch E htab (tableOf []) (⟨0, 8, 11, 15⟩ : ExceptionTableEntry) (tableOf []) rfl (fun z hz => ?_) (by decide) (by decide) q_148 (by decide +kernel) (fun q => ?_)
  · exact nomatch hz
  refine k_astore_n (lv' := [(2, .ref q), (0, .ref b), (1, .ref ao)]) E rfl (by decide) rfl dL_beginRound_11 ?_
  refine k_iconst E (v := 1) (by decide) dL_beginRound_12 ?_
  exact kx_iret E hr hlk rfl rfl rfl (by omega) (by omega) dL_beginRound_13
set_option maxRecDepth 100000 in
theorem w_visit {f lo : Nat} (l : Launch) (D : va_G) (k : Nat → ClassId) (ao b : Nat) (lf : Nat → Int64) (x0 : Int32) (Wc : va_W) {fs : List Value} (hf : f ≤ 12) (hlo : lo ≤ 600) (he : Wc[0]? = some (b, .inr (2, fs))) (v : Int32) (hM : mR l yX2_visit cX2_visit 3 (some .int) f lo D (kTy k) [.ref b, .int x0] Wc (some (.int v))) : mH l yL_visit cL_visit 4 (some .int) [(0, 9, 12, 21), (0, 9, 15, 15)] 14 700 4 24 D (kTy k) [.ref b, .int x0, .ref ao] (oL k ao lf :: Wc) (.inl (some (.int 0), (oL k ao (vp_updL lf 0 v.toInt64) :: Wc))) := by
  refine mH.of (lv' := [(0, .ref b), (1, .int x0), (2, .ref ao)]) (by decide) (Nat.le_of_ble_eq_true rfl) rfl ?_
  intro p e s m args below meth c E hr hlk htab hZ hA
  refine k_aload_n E 2 rfl rfl dL_visit_0 ?_
  refine k_iconst E (v := 0) (by decide) dL_visit_1 ?_
  refine k_aload_n E 0 rfl rfl dL_visit_2 ?_
  refine k_iload_n E 1 rfl rfl dL_visit_3 ?_
  refine k_callRV [.int x0] E hM cf_X2_visit q_363 (List.range' 1 Wc.length) (by have q9 := fm_mid [oL k ao lf] Wc []; simpa using q9) 1 he rfl rfl rfl ⟨show f + 1 ≤ 14 by omega, show 8 + (3 + 11) + lo ≤ 700 by omega⟩ (Nat.le_of_ble_eq_true rfl) ⟨by decide, by decide⟩ dL_visit_4 ?_
  refine k_i2l E (v := v.toInt64) rfl dL_visit_7 ?_
  refine k_last E (ws' := (oL k ao (vp_updL lf 0 v.toInt64) :: Wc)) 0 3 rfl rfl (j := 0) rfl (by decide) (by decide) rfl dL_visit_8 ?_
  refine k_goto E (tgt := 18) (by decide) dL_visit_9 ?_
  refine k_iconst E (v := 0) (by decide) dL_visit_18 ?_
  exact kx_iret E hr hlk rfl rfl rfl (by omega) (by omega) dL_visit_19
set_option maxRecDepth 100000 in
theorem w_visit_w {f lo mc ms : Nat} (l : Launch) (D : va_G) (k : Nat → ClassId) (ao b : Nat) (lf : Nat → Int64) (x0 : Int32) (Wc : va_W) {fs : List Value} (hf : f ≤ 12) (hlo : lo ≤ 600) (hmc : mc ≤ 4) (hms : ms ≤ 24) (he : Wc[0]? = some (b, .inr (2, fs))) (v : Int32) (W1 : va_W) (hM : mW l yX2_visit cX2_visit 3 (some .int) f lo mc ms D (kTy k) [.ref b, .int x0] Wc (some (.int v)) W1) : mH l yL_visit cL_visit 4 (some .int) [(0, 9, 12, 21), (0, 9, 15, 15)] 14 700 4 24 D (kTy k) [.ref b, .int x0, .ref ao] (oL k ao lf :: Wc) (.inl (some (.int 0), (oL k ao (vp_updL lf 0 v.toInt64) :: W1))) := by
  refine mH.of (lv' := [(0, .ref b), (1, .int x0), (2, .ref ao)]) (by decide) (Nat.le_of_ble_eq_true rfl) rfl ?_
  intro p e s m args below meth c E hr hlk htab hZ hA
  refine k_aload_n E 2 rfl rfl dL_visit_0 ?_
  refine k_iconst E (v := 0) (by decide) dL_visit_1 ?_
  refine k_aload_n E 0 rfl rfl dL_visit_2 ?_
  refine k_iload_n E 1 rfl rfl dL_visit_3 ?_
  refine k_callWV [.int x0] E hA hM cf_X2_visit q_363 [oL k ao lf] [] (ws' := oL k ao lf :: W1) (by simp) (by simp) 1 he rfl rfl rfl ⟨show f + 1 ≤ 14 by omega, show 8 + (3 + 11) + lo ≤ 700 by omega⟩ (Nat.le_of_ble_eq_true rfl) ⟨show 0 + mc ≤ 4 by omega, show 0 + ms ≤ 24 by omega⟩ dL_visit_4 ?_
  refine k_i2l E (v := v.toInt64) rfl dL_visit_7 ?_
  refine k_last E (ws' := (oL k ao (vp_updL lf 0 v.toInt64) :: W1)) 0 3 rfl rfl (j := 0) rfl (by decide) (by decide) rfl dL_visit_8 ?_
  refine k_goto E (tgt := 18) (by decide) dL_visit_9 ?_
  refine k_iconst E (v := 0) (by decide) dL_visit_18 ?_
  exact kx_iret E hr hlk rfl rfl rfl (by omega) (by omega) dL_visit_19
set_option maxRecDepth 100000 in
theorem w_visit_i {f lo mc ms : Nat} (l : Launch) (D : va_G) (k : Nat → ClassId) (ao b : Nat) (lf : Nat → Int64) (x0 : Int32) (Wc : va_W) {fs : List Value} (hf : f ≤ 12) (hlo : lo ≤ 600) (hmc : mc ≤ 4) (hms : ms ≤ 24) (he : Wc[0]? = some (b, .inr (2, fs))) (hM : mX l yX2_visit cX2_visit 3 (some .int) f lo mc ms D (kTy k) [.ref b, .int x0] Wc (.inr "java/lang/IndexOutOfBoundsException")) : mH l yL_visit cL_visit 4 (some .int) [(0, 9, 12, 21), (0, 9, 15, 15)] 14 700 4 24 D (kTy k) [.ref b, .int x0, .ref ao] (oL k ao lf :: Wc) (.inl (some (.int 1), (oL k ao lf :: Wc))) := by
  refine mH.of (lv' := [(0, .ref b), (1, .int x0), (2, .ref ao)]) (by decide) (Nat.le_of_ble_eq_true rfl) rfl ?_
  intro p e s m args below meth c E hr hlk htab hZ hA
  refine k_aload_n E 2 rfl rfl dL_visit_0 ?_
  refine k_iconst E (v := 0) (by decide) dL_visit_1 ?_
  refine k_aload_n E 0 rfl rfl dL_visit_2 ?_
  refine k_iload_n E 1 rfl rfl dL_visit_3 ?_
  refine k_callXV [.int x0] E hA hZ hM cf_X2_visit q_363 [oL k ao lf] [] (by simp) 1 he rfl rfl rfl ⟨show f + 1 ≤ 14 by omega, show 8 + (3 + 11) + lo ≤ 700 by omega⟩ (Nat.le_of_ble_eq_true rfl) ⟨show 0 + mc ≤ 4 by omega, show 0 + ms ≤ 24 by omega⟩ dL_visit_4 (fun v W1 q => nomatch q) (fun X q => ?_)
  cases q
  refine k_xcatch E htab (tableOf []) (⟨0, 9, 12, 21⟩ : ExceptionTableEntry) (tableOf [(0, 9, 15, 15)]) rfl (fun z hz => ?_) (by decide) (by decide) q_248 (by decide +kernel) (fun q => ?_)
  · exact nomatch hz
  refine k_astore_n (lv' := [(3, .ref q), (0, .ref b), (1, .int x0), (2, .ref ao)]) E rfl (by decide) rfl dL_visit_12 ?_
  refine k_iconst E (v := 1) (by decide) dL_visit_13 ?_
  exact kx_iret E hr hlk rfl rfl rfl (by omega) (by omega) dL_visit_14
set_option maxRecDepth 100000 in
theorem w_visit_s {f lo mc ms : Nat} (l : Launch) (D : va_G) (k : Nat → ClassId) (ao b : Nat) (lf : Nat → Int64) (x0 : Int32) (Wc : va_W) {fs : List Value} (hf : f ≤ 12) (hlo : lo ≤ 600) (hmc : mc ≤ 4) (hms : ms ≤ 24) (he : Wc[0]? = some (b, .inr (2, fs))) (hM : mX l yX2_visit cX2_visit 3 (some .int) f lo mc ms D (kTy k) [.ref b, .int x0] Wc (.inr "java/lang/IllegalStateException")) : mH l yL_visit cL_visit 4 (some .int) [(0, 9, 12, 21), (0, 9, 15, 15)] 14 700 4 24 D (kTy k) [.ref b, .int x0, .ref ao] (oL k ao lf :: Wc) (.inl (some (.int 2), (oL k ao lf :: Wc))) := by
  refine mH.of (lv' := [(0, .ref b), (1, .int x0), (2, .ref ao)]) (by decide) (Nat.le_of_ble_eq_true rfl) rfl ?_
  intro p e s m args below meth c E hr hlk htab hZ hA
  refine k_aload_n E 2 rfl rfl dL_visit_0 ?_
  refine k_iconst E (v := 0) (by decide) dL_visit_1 ?_
  refine k_aload_n E 0 rfl rfl dL_visit_2 ?_
  refine k_iload_n E 1 rfl rfl dL_visit_3 ?_
  refine k_callXV [.int x0] E hA hZ hM cf_X2_visit q_363 [oL k ao lf] [] (by simp) 1 he rfl rfl rfl ⟨show f + 1 ≤ 14 by omega, show 8 + (3 + 11) + lo ≤ 700 by omega⟩ (Nat.le_of_ble_eq_true rfl) ⟨show 0 + mc ≤ 4 by omega, show 0 + ms ≤ 24 by omega⟩ dL_visit_4 (fun v W1 q => nomatch q) (fun X q => ?_)
  cases q
  refine k_xcatch E htab (tableOf [(0, 9, 12, 21)]) (⟨0, 9, 15, 15⟩ : ExceptionTableEntry) (tableOf []) rfl (fun z hz => ?_) (by decide) (by decide) q_148 (by decide +kernel) (fun q => ?_)
  · exact List.mem_cons.mp hz |>.elim (fun q => q ▸ Or.inr ⟨by decide, _, q_248, by decide +kernel⟩) (fun hz => nomatch hz)
  refine k_astore_n (lv' := [(3, .ref q), (0, .ref b), (1, .int x0), (2, .ref ao)]) E rfl (by decide) rfl dL_visit_15 ?_
  refine k_iconst E (v := 2) (by decide) dL_visit_16 ?_
  exact kx_iret E hr hlk rfl rfl rfl (by omega) (by omega) dL_visit_17
set_option maxRecDepth 100000 in
theorem w_endRound {f lo : Nat} (l : Launch) (D : va_G) (k : Nat → ClassId) (ao b : Nat) (lf : Nat → Int64) (x0 : Int32) (Wc : va_W) {fs : List Value} (hf : f ≤ 12) (hlo : lo ≤ 600) (he : Wc[0]? = some (b, .inr (2, fs))) (v : Int32) (hM : mR l yX2_endRound cX2_endRound 2 (some .int) f lo D (kTy k) [.ref b, .int x0] Wc (some (.int v))) : mH l yL_endRound cL_endRound 4 (some .int) [(0, 9, 12, 21), (0, 9, 15, 15), (0, 9, 18, 45)] 14 700 4 24 D (kTy k) [.ref b, .int x0, .ref ao] (oL k ao lf :: Wc) (.inl (some (.int 0), (oL k ao (vp_updL lf 0 v.toInt64) :: Wc))) := by
  refine mH.of (lv' := [(0, .ref b), (1, .int x0), (2, .ref ao)]) (by decide) (Nat.le_of_ble_eq_true rfl) rfl ?_
  intro p e s m args below meth c E hr hlk htab hZ hA
  refine k_aload_n E 2 rfl rfl dL_endRound_0 ?_
  refine k_iconst E (v := 0) (by decide) dL_endRound_1 ?_
  refine k_aload_n E 0 rfl rfl dL_endRound_2 ?_
  refine k_iload_n E 1 rfl rfl dL_endRound_3 ?_
  refine k_callRV [.int x0] E hM cf_X2_endRound q_383 (List.range' 1 Wc.length) (by have q9 := fm_mid [oL k ao lf] Wc []; simpa using q9) 1 he rfl rfl rfl ⟨show f + 1 ≤ 14 by omega, show 8 + (2 + 11) + lo ≤ 700 by omega⟩ (Nat.le_of_ble_eq_true rfl) ⟨by decide, by decide⟩ dL_endRound_4 ?_
  refine k_i2l E (v := v.toInt64) rfl dL_endRound_7 ?_
  refine k_last E (ws' := (oL k ao (vp_updL lf 0 v.toInt64) :: Wc)) 0 3 rfl rfl (j := 0) rfl (by decide) (by decide) rfl dL_endRound_8 ?_
  refine k_goto E (tgt := 21) (by decide) dL_endRound_9 ?_
  refine k_iconst E (v := 0) (by decide) dL_endRound_21 ?_
  exact kx_iret E hr hlk rfl rfl rfl (by omega) (by omega) dL_endRound_22
set_option maxRecDepth 100000 in
theorem w_endRound_w {f lo mc ms : Nat} (l : Launch) (D : va_G) (k : Nat → ClassId) (ao b : Nat) (lf : Nat → Int64) (x0 : Int32) (Wc : va_W) {fs : List Value} (hf : f ≤ 12) (hlo : lo ≤ 600) (hmc : mc ≤ 4) (hms : ms ≤ 24) (he : Wc[0]? = some (b, .inr (2, fs))) (v : Int32) (W1 : va_W) (hM : mW l yX2_endRound cX2_endRound 2 (some .int) f lo mc ms D (kTy k) [.ref b, .int x0] Wc (some (.int v)) W1) : mH l yL_endRound cL_endRound 4 (some .int) [(0, 9, 12, 21), (0, 9, 15, 15), (0, 9, 18, 45)] 14 700 4 24 D (kTy k) [.ref b, .int x0, .ref ao] (oL k ao lf :: Wc) (.inl (some (.int 0), (oL k ao (vp_updL lf 0 v.toInt64) :: W1))) := by
  refine mH.of (lv' := [(0, .ref b), (1, .int x0), (2, .ref ao)]) (by decide) (Nat.le_of_ble_eq_true rfl) rfl ?_
  intro p e s m args below meth c E hr hlk htab hZ hA
  refine k_aload_n E 2 rfl rfl dL_endRound_0 ?_
  refine k_iconst E (v := 0) (by decide) dL_endRound_1 ?_
  refine k_aload_n E 0 rfl rfl dL_endRound_2 ?_
  refine k_iload_n E 1 rfl rfl dL_endRound_3 ?_
  refine k_callWV [.int x0] E hA hM cf_X2_endRound q_383 [oL k ao lf] [] (ws' := oL k ao lf :: W1) (by simp) (by simp) 1 he rfl rfl rfl ⟨show f + 1 ≤ 14 by omega, show 8 + (2 + 11) + lo ≤ 700 by omega⟩ (Nat.le_of_ble_eq_true rfl) ⟨show 0 + mc ≤ 4 by omega, show 0 + ms ≤ 24 by omega⟩ dL_endRound_4 ?_
  refine k_i2l E (v := v.toInt64) rfl dL_endRound_7 ?_
  refine k_last E (ws' := (oL k ao (vp_updL lf 0 v.toInt64) :: W1)) 0 3 rfl rfl (j := 0) rfl (by decide) (by decide) rfl dL_endRound_8 ?_
  refine k_goto E (tgt := 21) (by decide) dL_endRound_9 ?_
  refine k_iconst E (v := 0) (by decide) dL_endRound_21 ?_
  exact kx_iret E hr hlk rfl rfl rfl (by omega) (by omega) dL_endRound_22
set_option maxRecDepth 100000 in
theorem w_endRound_i {f lo mc ms : Nat} (l : Launch) (D : va_G) (k : Nat → ClassId) (ao b : Nat) (lf : Nat → Int64) (x0 : Int32) (Wc : va_W) {fs : List Value} (hf : f ≤ 12) (hlo : lo ≤ 600) (hmc : mc ≤ 4) (hms : ms ≤ 24) (he : Wc[0]? = some (b, .inr (2, fs))) (hM : mX l yX2_endRound cX2_endRound 2 (some .int) f lo mc ms D (kTy k) [.ref b, .int x0] Wc (.inr "java/lang/IndexOutOfBoundsException")) : mH l yL_endRound cL_endRound 4 (some .int) [(0, 9, 12, 21), (0, 9, 15, 15), (0, 9, 18, 45)] 14 700 4 24 D (kTy k) [.ref b, .int x0, .ref ao] (oL k ao lf :: Wc) (.inl (some (.int 1), (oL k ao lf :: Wc))) := by
  refine mH.of (lv' := [(0, .ref b), (1, .int x0), (2, .ref ao)]) (by decide) (Nat.le_of_ble_eq_true rfl) rfl ?_
  intro p e s m args below meth c E hr hlk htab hZ hA
  refine k_aload_n E 2 rfl rfl dL_endRound_0 ?_
  refine k_iconst E (v := 0) (by decide) dL_endRound_1 ?_
  refine k_aload_n E 0 rfl rfl dL_endRound_2 ?_
  refine k_iload_n E 1 rfl rfl dL_endRound_3 ?_
  refine k_callXV [.int x0] E hA hZ hM cf_X2_endRound q_383 [oL k ao lf] [] (by simp) 1 he rfl rfl rfl ⟨show f + 1 ≤ 14 by omega, show 8 + (2 + 11) + lo ≤ 700 by omega⟩ (Nat.le_of_ble_eq_true rfl) ⟨show 0 + mc ≤ 4 by omega, show 0 + ms ≤ 24 by omega⟩ dL_endRound_4 (fun v W1 q => nomatch q) (fun X q => ?_)
  cases q
  refine k_xcatch E htab (tableOf []) (⟨0, 9, 12, 21⟩ : ExceptionTableEntry) (tableOf [(0, 9, 15, 15), (0, 9, 18, 45)]) rfl (fun z hz => ?_) (by decide) (by decide) q_248 (by decide +kernel) (fun q => ?_)
  · exact nomatch hz
  refine k_astore_n (lv' := [(3, .ref q), (0, .ref b), (1, .int x0), (2, .ref ao)]) E rfl (by decide) rfl dL_endRound_12 ?_
  refine k_iconst E (v := 1) (by decide) dL_endRound_13 ?_
  exact kx_iret E hr hlk rfl rfl rfl (by omega) (by omega) dL_endRound_14
set_option maxRecDepth 100000 in
theorem w_endRound_s {f lo mc ms : Nat} (l : Launch) (D : va_G) (k : Nat → ClassId) (ao b : Nat) (lf : Nat → Int64) (x0 : Int32) (Wc : va_W) {fs : List Value} (hf : f ≤ 12) (hlo : lo ≤ 600) (hmc : mc ≤ 4) (hms : ms ≤ 24) (he : Wc[0]? = some (b, .inr (2, fs))) (hM : mX l yX2_endRound cX2_endRound 2 (some .int) f lo mc ms D (kTy k) [.ref b, .int x0] Wc (.inr "java/lang/IllegalStateException")) : mH l yL_endRound cL_endRound 4 (some .int) [(0, 9, 12, 21), (0, 9, 15, 15), (0, 9, 18, 45)] 14 700 4 24 D (kTy k) [.ref b, .int x0, .ref ao] (oL k ao lf :: Wc) (.inl (some (.int 2), (oL k ao lf :: Wc))) := by
  refine mH.of (lv' := [(0, .ref b), (1, .int x0), (2, .ref ao)]) (by decide) (Nat.le_of_ble_eq_true rfl) rfl ?_
  intro p e s m args below meth c E hr hlk htab hZ hA
  refine k_aload_n E 2 rfl rfl dL_endRound_0 ?_
  refine k_iconst E (v := 0) (by decide) dL_endRound_1 ?_
  refine k_aload_n E 0 rfl rfl dL_endRound_2 ?_
  refine k_iload_n E 1 rfl rfl dL_endRound_3 ?_
  refine k_callXV [.int x0] E hA hZ hM cf_X2_endRound q_383 [oL k ao lf] [] (by simp) 1 he rfl rfl rfl ⟨show f + 1 ≤ 14 by omega, show 8 + (2 + 11) + lo ≤ 700 by omega⟩ (Nat.le_of_ble_eq_true rfl) ⟨show 0 + mc ≤ 4 by omega, show 0 + ms ≤ 24 by omega⟩ dL_endRound_4 (fun v W1 q => nomatch q) (fun X q => ?_)
  cases q
  refine k_xcatch E htab (tableOf [(0, 9, 12, 21)]) (⟨0, 9, 15, 15⟩ : ExceptionTableEntry) (tableOf [(0, 9, 18, 45)]) rfl (fun z hz => ?_) (by decide) (by decide) q_148 (by decide +kernel) (fun q => ?_)
  · exact List.mem_cons.mp hz |>.elim (fun q => q ▸ Or.inr ⟨by decide, _, q_248, by decide +kernel⟩) (fun hz => nomatch hz)
  refine k_astore_n (lv' := [(3, .ref q), (0, .ref b), (1, .int x0), (2, .ref ao)]) E rfl (by decide) rfl dL_endRound_15 ?_
  refine k_iconst E (v := 2) (by decide) dL_endRound_16 ?_
  exact kx_iret E hr hlk rfl rfl rfl (by omega) (by omega) dL_endRound_17
set_option maxRecDepth 100000 in
theorem w_endRound_u {f lo mc ms : Nat} (l : Launch) (D : va_G) (k : Nat → ClassId) (ao b : Nat) (lf : Nat → Int64) (x0 : Int32) (Wc : va_W) {fs : List Value} (hf : f ≤ 12) (hlo : lo ≤ 600) (hmc : mc ≤ 4) (hms : ms ≤ 24) (he : Wc[0]? = some (b, .inr (2, fs))) (hM : mX l yX2_endRound cX2_endRound 2 (some .int) f lo mc ms D (kTy k) [.ref b, .int x0] Wc (.inr "java/lang/UnsupportedOperationException")) : mH l yL_endRound cL_endRound 4 (some .int) [(0, 9, 12, 21), (0, 9, 15, 15), (0, 9, 18, 45)] 14 700 4 24 D (kTy k) [.ref b, .int x0, .ref ao] (oL k ao lf :: Wc) (.inl (some (.int 3), (oL k ao lf :: Wc))) := by
  refine mH.of (lv' := [(0, .ref b), (1, .int x0), (2, .ref ao)]) (by decide) (Nat.le_of_ble_eq_true rfl) rfl ?_
  intro p e s m args below meth c E hr hlk htab hZ hA
  refine k_aload_n E 2 rfl rfl dL_endRound_0 ?_
  refine k_iconst E (v := 0) (by decide) dL_endRound_1 ?_
  refine k_aload_n E 0 rfl rfl dL_endRound_2 ?_
  refine k_iload_n E 1 rfl rfl dL_endRound_3 ?_
  refine k_callXV [.int x0] E hA hZ hM cf_X2_endRound q_383 [oL k ao lf] [] (by simp) 1 he rfl rfl rfl ⟨show f + 1 ≤ 14 by omega, show 8 + (2 + 11) + lo ≤ 700 by omega⟩ (Nat.le_of_ble_eq_true rfl) ⟨show 0 + mc ≤ 4 by omega, show 0 + ms ≤ 24 by omega⟩ dL_endRound_4 (fun v W1 q => nomatch q) (fun X q => ?_)
  cases q
  refine k_xcatch E htab (tableOf [(0, 9, 12, 21), (0, 9, 15, 15)]) (⟨0, 9, 18, 45⟩ : ExceptionTableEntry) (tableOf []) rfl (fun z hz => ?_) (by decide) (by decide) q_382 (by decide +kernel) (fun q => ?_)
  · exact List.mem_cons.mp hz |>.elim (fun q => q ▸ Or.inr ⟨by decide, _, q_248, by decide +kernel⟩) (fun hz => List.mem_cons.mp hz |>.elim (fun q => q ▸ Or.inr ⟨by decide, _, q_148, by decide +kernel⟩) (fun hz => nomatch hz))
  refine k_astore_n (lv' := [(3, .ref q), (0, .ref b), (1, .int x0), (2, .ref ao)]) E rfl (by decide) rfl dL_endRound_18 ?_
  refine k_iconst E (v := 3) (by decide) dL_endRound_19 ?_
  exact kx_iret E hr hlk rfl rfl rfl (by omega) (by omega) dL_endRound_20
set_option maxRecDepth 100000 in
theorem w_inVat {f lo : Nat} (l : Launch) (D : va_G) (k : Nat → ClassId) (ao b : Nat) (lf : Nat → Int64) (x0 : Int32) (Wc : va_W) {fs : List Value} (hf : f ≤ 12) (hlo : lo ≤ 600) (he : Wc[0]? = some (b, .inr (2, fs))) (v : Int32) (hM : mR l yX2_inVat cX2_inVat 2 (some .int) f lo D (kTy k) [.ref b, .int x0] Wc (some (.int v))) : mH l yL_inVat cL_inVat 4 (some .int) [(0, 9, 12, 21)] 14 700 4 24 D (kTy k) [.ref b, .int x0, .ref ao] (oL k ao lf :: Wc) (.inl (some (.int 0), (oL k ao (vp_updL lf 0 v.toInt64) :: Wc))) := by
  refine mH.of (lv' := [(0, .ref b), (1, .int x0), (2, .ref ao)]) (by decide) (Nat.le_of_ble_eq_true rfl) rfl ?_
  intro p e s m args below meth c E hr hlk htab hZ hA
  refine k_aload_n E 2 rfl rfl dL_inVat_0 ?_
  refine k_iconst E (v := 0) (by decide) dL_inVat_1 ?_
  refine k_aload_n E 0 rfl rfl dL_inVat_2 ?_
  refine k_iload_n E 1 rfl rfl dL_inVat_3 ?_
  refine k_callRV [.int x0] E hM cf_X2_inVat q_428 (List.range' 1 Wc.length) (by have q9 := fm_mid [oL k ao lf] Wc []; simpa using q9) 1 he rfl rfl rfl ⟨show f + 1 ≤ 14 by omega, show 8 + (2 + 11) + lo ≤ 700 by omega⟩ (Nat.le_of_ble_eq_true rfl) ⟨by decide, by decide⟩ dL_inVat_4 ?_
  refine k_i2l E (v := v.toInt64) rfl dL_inVat_7 ?_
  refine k_last E (ws' := (oL k ao (vp_updL lf 0 v.toInt64) :: Wc)) 0 3 rfl rfl (j := 0) rfl (by decide) (by decide) rfl dL_inVat_8 ?_
  refine k_goto E (tgt := 15) (by decide) dL_inVat_9 ?_
  refine k_iconst E (v := 0) (by decide) dL_inVat_15 ?_
  exact kx_iret E hr hlk rfl rfl rfl (by omega) (by omega) dL_inVat_16
set_option maxRecDepth 100000 in
theorem w_inVat_w {f lo mc ms : Nat} (l : Launch) (D : va_G) (k : Nat → ClassId) (ao b : Nat) (lf : Nat → Int64) (x0 : Int32) (Wc : va_W) {fs : List Value} (hf : f ≤ 12) (hlo : lo ≤ 600) (hmc : mc ≤ 4) (hms : ms ≤ 24) (he : Wc[0]? = some (b, .inr (2, fs))) (v : Int32) (W1 : va_W) (hM : mW l yX2_inVat cX2_inVat 2 (some .int) f lo mc ms D (kTy k) [.ref b, .int x0] Wc (some (.int v)) W1) : mH l yL_inVat cL_inVat 4 (some .int) [(0, 9, 12, 21)] 14 700 4 24 D (kTy k) [.ref b, .int x0, .ref ao] (oL k ao lf :: Wc) (.inl (some (.int 0), (oL k ao (vp_updL lf 0 v.toInt64) :: W1))) := by
  refine mH.of (lv' := [(0, .ref b), (1, .int x0), (2, .ref ao)]) (by decide) (Nat.le_of_ble_eq_true rfl) rfl ?_
  intro p e s m args below meth c E hr hlk htab hZ hA
  refine k_aload_n E 2 rfl rfl dL_inVat_0 ?_
  refine k_iconst E (v := 0) (by decide) dL_inVat_1 ?_
  refine k_aload_n E 0 rfl rfl dL_inVat_2 ?_
  refine k_iload_n E 1 rfl rfl dL_inVat_3 ?_
  refine k_callWV [.int x0] E hA hM cf_X2_inVat q_428 [oL k ao lf] [] (ws' := oL k ao lf :: W1) (by simp) (by simp) 1 he rfl rfl rfl ⟨show f + 1 ≤ 14 by omega, show 8 + (2 + 11) + lo ≤ 700 by omega⟩ (Nat.le_of_ble_eq_true rfl) ⟨show 0 + mc ≤ 4 by omega, show 0 + ms ≤ 24 by omega⟩ dL_inVat_4 ?_
  refine k_i2l E (v := v.toInt64) rfl dL_inVat_7 ?_
  refine k_last E (ws' := (oL k ao (vp_updL lf 0 v.toInt64) :: W1)) 0 3 rfl rfl (j := 0) rfl (by decide) (by decide) rfl dL_inVat_8 ?_
  refine k_goto E (tgt := 15) (by decide) dL_inVat_9 ?_
  refine k_iconst E (v := 0) (by decide) dL_inVat_15 ?_
  exact kx_iret E hr hlk rfl rfl rfl (by omega) (by omega) dL_inVat_16
set_option maxRecDepth 100000 in
theorem w_inVat_i {f lo mc ms : Nat} (l : Launch) (D : va_G) (k : Nat → ClassId) (ao b : Nat) (lf : Nat → Int64) (x0 : Int32) (Wc : va_W) {fs : List Value} (hf : f ≤ 12) (hlo : lo ≤ 600) (hmc : mc ≤ 4) (hms : ms ≤ 24) (he : Wc[0]? = some (b, .inr (2, fs))) (hM : mX l yX2_inVat cX2_inVat 2 (some .int) f lo mc ms D (kTy k) [.ref b, .int x0] Wc (.inr "java/lang/IndexOutOfBoundsException")) : mH l yL_inVat cL_inVat 4 (some .int) [(0, 9, 12, 21)] 14 700 4 24 D (kTy k) [.ref b, .int x0, .ref ao] (oL k ao lf :: Wc) (.inl (some (.int 1), (oL k ao lf :: Wc))) := by
  refine mH.of (lv' := [(0, .ref b), (1, .int x0), (2, .ref ao)]) (by decide) (Nat.le_of_ble_eq_true rfl) rfl ?_
  intro p e s m args below meth c E hr hlk htab hZ hA
  refine k_aload_n E 2 rfl rfl dL_inVat_0 ?_
  refine k_iconst E (v := 0) (by decide) dL_inVat_1 ?_
  refine k_aload_n E 0 rfl rfl dL_inVat_2 ?_
  refine k_iload_n E 1 rfl rfl dL_inVat_3 ?_
  refine k_callXV [.int x0] E hA hZ hM cf_X2_inVat q_428 [oL k ao lf] [] (by simp) 1 he rfl rfl rfl ⟨show f + 1 ≤ 14 by omega, show 8 + (2 + 11) + lo ≤ 700 by omega⟩ (Nat.le_of_ble_eq_true rfl) ⟨show 0 + mc ≤ 4 by omega, show 0 + ms ≤ 24 by omega⟩ dL_inVat_4 (fun v W1 q => nomatch q) (fun X q => ?_)
  cases q
  refine k_xcatch E htab (tableOf []) (⟨0, 9, 12, 21⟩ : ExceptionTableEntry) (tableOf []) rfl (fun z hz => ?_) (by decide) (by decide) q_248 (by decide +kernel) (fun q => ?_)
  · exact nomatch hz
  refine k_astore_n (lv' := [(3, .ref q), (0, .ref b), (1, .int x0), (2, .ref ao)]) E rfl (by decide) rfl dL_inVat_12 ?_
  refine k_iconst E (v := 1) (by decide) dL_inVat_13 ?_
  exact kx_iret E hr hlk rfl rfl rfl (by omega) (by omega) dL_inVat_14
set_option maxRecDepth 100000 in
theorem w_bestVat {f lo : Nat} (l : Launch) (D : va_G) (k : Nat → ClassId) (ao b : Nat) (lf : Nat → Int64) (Wc : va_W) {fs : List Value} (hf : f ≤ 12) (hlo : lo ≤ 600) (he : Wc[0]? = some (b, .inr (2, fs))) (v : Int32) (hM : mR l yX2_bestVat cX2_bestVat 6 (some .int) f lo D (kTy k) [.ref b] Wc (some (.int v))) : mH l yL_bestVat cL_bestVat 3 (some .int) [(0, 8, 11, 53)] 14 700 4 24 D (kTy k) [.ref b, .ref ao] (oL k ao lf :: Wc) (.inl (some (.int 0), (oL k ao (vp_updL lf 0 v.toInt64) :: Wc))) := by
  refine mH.of (lv' := [(0, .ref b), (1, .ref ao)]) (by decide) (Nat.le_of_ble_eq_true rfl) rfl ?_
  intro p e s m args below meth c E hr hlk htab hZ hA
  refine k_aload_n E 1 rfl rfl dL_bestVat_0 ?_
  refine k_iconst E (v := 0) (by decide) dL_bestVat_1 ?_
  refine k_aload_n E 0 rfl rfl dL_bestVat_2 ?_
  refine k_callRV [] E hM cf_X2_bestVat q_433 (List.range' 1 Wc.length) (by have q9 := fm_mid [oL k ao lf] Wc []; simpa using q9) 1 he rfl rfl rfl ⟨show f + 1 ≤ 14 by omega, show 8 + (6 + 11) + lo ≤ 700 by omega⟩ (Nat.le_of_ble_eq_true rfl) ⟨by decide, by decide⟩ dL_bestVat_3 ?_
  refine k_i2l E (v := v.toInt64) rfl dL_bestVat_6 ?_
  refine k_last E (ws' := (oL k ao (vp_updL lf 0 v.toInt64) :: Wc)) 0 3 rfl rfl (j := 0) rfl (by decide) (by decide) rfl dL_bestVat_7 ?_
  refine k_goto E (tgt := 14) (by decide) dL_bestVat_8 ?_
  refine k_iconst E (v := 0) (by decide) dL_bestVat_14 ?_
  exact kx_iret E hr hlk rfl rfl rfl (by omega) (by omega) dL_bestVat_15
set_option maxRecDepth 100000 in
theorem w_bestVat_w {f lo mc ms : Nat} (l : Launch) (D : va_G) (k : Nat → ClassId) (ao b : Nat) (lf : Nat → Int64) (Wc : va_W) {fs : List Value} (hf : f ≤ 12) (hlo : lo ≤ 600) (hmc : mc ≤ 4) (hms : ms ≤ 24) (he : Wc[0]? = some (b, .inr (2, fs))) (v : Int32) (W1 : va_W) (hM : mW l yX2_bestVat cX2_bestVat 6 (some .int) f lo mc ms D (kTy k) [.ref b] Wc (some (.int v)) W1) : mH l yL_bestVat cL_bestVat 3 (some .int) [(0, 8, 11, 53)] 14 700 4 24 D (kTy k) [.ref b, .ref ao] (oL k ao lf :: Wc) (.inl (some (.int 0), (oL k ao (vp_updL lf 0 v.toInt64) :: W1))) := by
  refine mH.of (lv' := [(0, .ref b), (1, .ref ao)]) (by decide) (Nat.le_of_ble_eq_true rfl) rfl ?_
  intro p e s m args below meth c E hr hlk htab hZ hA
  refine k_aload_n E 1 rfl rfl dL_bestVat_0 ?_
  refine k_iconst E (v := 0) (by decide) dL_bestVat_1 ?_
  refine k_aload_n E 0 rfl rfl dL_bestVat_2 ?_
  refine k_callWV [] E hA hM cf_X2_bestVat q_433 [oL k ao lf] [] (ws' := oL k ao lf :: W1) (by simp) (by simp) 1 he rfl rfl rfl ⟨show f + 1 ≤ 14 by omega, show 8 + (6 + 11) + lo ≤ 700 by omega⟩ (Nat.le_of_ble_eq_true rfl) ⟨show 0 + mc ≤ 4 by omega, show 0 + ms ≤ 24 by omega⟩ dL_bestVat_3 ?_
  refine k_i2l E (v := v.toInt64) rfl dL_bestVat_6 ?_
  refine k_last E (ws' := (oL k ao (vp_updL lf 0 v.toInt64) :: W1)) 0 3 rfl rfl (j := 0) rfl (by decide) (by decide) rfl dL_bestVat_7 ?_
  refine k_goto E (tgt := 14) (by decide) dL_bestVat_8 ?_
  refine k_iconst E (v := 0) (by decide) dL_bestVat_14 ?_
  exact kx_iret E hr hlk rfl rfl rfl (by omega) (by omega) dL_bestVat_15
set_option maxRecDepth 100000 in
theorem w_bestVat_n {f lo mc ms : Nat} (l : Launch) (D : va_G) (k : Nat → ClassId) (ao b : Nat) (lf : Nat → Int64) (Wc : va_W) {fs : List Value} (hf : f ≤ 12) (hlo : lo ≤ 600) (hmc : mc ≤ 4) (hms : ms ≤ 24) (he : Wc[0]? = some (b, .inr (2, fs))) (hM : mX l yX2_bestVat cX2_bestVat 6 (some .int) f lo mc ms D (kTy k) [.ref b] Wc (.inr "java/util/NoSuchElementException")) : mH l yL_bestVat cL_bestVat 3 (some .int) [(0, 8, 11, 53)] 14 700 4 24 D (kTy k) [.ref b, .ref ao] (oL k ao lf :: Wc) (.inl (some (.int 1), (oL k ao lf :: Wc))) := by
  refine mH.of (lv' := [(0, .ref b), (1, .ref ao)]) (by decide) (Nat.le_of_ble_eq_true rfl) rfl ?_
  intro p e s m args below meth c E hr hlk htab hZ hA
  refine k_aload_n E 1 rfl rfl dL_bestVat_0 ?_
  refine k_iconst E (v := 0) (by decide) dL_bestVat_1 ?_
  refine k_aload_n E 0 rfl rfl dL_bestVat_2 ?_
  refine k_callXV [] E hA hZ hM cf_X2_bestVat q_433 [oL k ao lf] [] (by simp) 1 he rfl rfl rfl ⟨show f + 1 ≤ 14 by omega, show 8 + (6 + 11) + lo ≤ 700 by omega⟩ (Nat.le_of_ble_eq_true rfl) ⟨show 0 + mc ≤ 4 by omega, show 0 + ms ≤ 24 by omega⟩ dL_bestVat_3 (fun v W1 q => nomatch q) (fun X q => ?_)
  cases q
  refine k_xcatch E htab (tableOf []) (⟨0, 8, 11, 53⟩ : ExceptionTableEntry) (tableOf []) rfl (fun z hz => ?_) (by decide) (by decide) q_432 (by decide +kernel) (fun q => ?_)
  · exact nomatch hz
  refine k_astore_n (lv' := [(2, .ref q), (0, .ref b), (1, .ref ao)]) E rfl (by decide) rfl dL_bestVat_11 ?_
  refine k_iconst E (v := 1) (by decide) dL_bestVat_12 ?_
  exact kx_iret E hr hlk rfl rfl rfl (by omega) (by omega) dL_bestVat_13
set_option maxRecDepth 100000 in
theorem w_close {f lo : Nat} (l : Launch) (D : va_G) (k : Nat → ClassId) (ao b : Nat) (lf : Nat → Int64) (x0 : Int32) (Wc : va_W) {fs : List Value} (hf : f ≤ 12) (hlo : lo ≤ 600) (he : Wc[0]? = some (b, .inr (2, fs))) (v : Int32) (hM : mR l yX2_close cX2_close 3 (some .int) f lo D (kTy k) [.ref b, .int x0] Wc (some (.int v))) : mH l yL_close cL_close 4 (some .int) [(0, 9, 12, 21), (0, 9, 15, 45), (0, 9, 18, 15)] 14 700 4 24 D (kTy k) [.ref b, .int x0, .ref ao] (oL k ao lf :: Wc) (.inl (some (.int 0), (oL k ao (vp_updL lf 0 v.toInt64) :: Wc))) := by
  refine mH.of (lv' := [(0, .ref b), (1, .int x0), (2, .ref ao)]) (by decide) (Nat.le_of_ble_eq_true rfl) rfl ?_
  intro p e s m args below meth c E hr hlk htab hZ hA
  refine k_aload_n E 2 rfl rfl dL_close_0 ?_
  refine k_iconst E (v := 0) (by decide) dL_close_1 ?_
  refine k_aload_n E 0 rfl rfl dL_close_2 ?_
  refine k_iload_n E 1 rfl rfl dL_close_3 ?_
  refine k_callRV [.int x0] E hM cf_X2_close q_456 (List.range' 1 Wc.length) (by have q9 := fm_mid [oL k ao lf] Wc []; simpa using q9) 1 he rfl rfl rfl ⟨show f + 1 ≤ 14 by omega, show 8 + (3 + 11) + lo ≤ 700 by omega⟩ (Nat.le_of_ble_eq_true rfl) ⟨by decide, by decide⟩ dL_close_4 ?_
  refine k_i2l E (v := v.toInt64) rfl dL_close_7 ?_
  refine k_last E (ws' := (oL k ao (vp_updL lf 0 v.toInt64) :: Wc)) 0 3 rfl rfl (j := 0) rfl (by decide) (by decide) rfl dL_close_8 ?_
  refine k_goto E (tgt := 21) (by decide) dL_close_9 ?_
  refine k_iconst E (v := 0) (by decide) dL_close_21 ?_
  exact kx_iret E hr hlk rfl rfl rfl (by omega) (by omega) dL_close_22
set_option maxRecDepth 100000 in
theorem w_close_w {f lo mc ms : Nat} (l : Launch) (D : va_G) (k : Nat → ClassId) (ao b : Nat) (lf : Nat → Int64) (x0 : Int32) (Wc : va_W) {fs : List Value} (hf : f ≤ 12) (hlo : lo ≤ 600) (hmc : mc ≤ 4) (hms : ms ≤ 24) (he : Wc[0]? = some (b, .inr (2, fs))) (v : Int32) (W1 : va_W) (hM : mW l yX2_close cX2_close 3 (some .int) f lo mc ms D (kTy k) [.ref b, .int x0] Wc (some (.int v)) W1) : mH l yL_close cL_close 4 (some .int) [(0, 9, 12, 21), (0, 9, 15, 45), (0, 9, 18, 15)] 14 700 4 24 D (kTy k) [.ref b, .int x0, .ref ao] (oL k ao lf :: Wc) (.inl (some (.int 0), (oL k ao (vp_updL lf 0 v.toInt64) :: W1))) := by
  refine mH.of (lv' := [(0, .ref b), (1, .int x0), (2, .ref ao)]) (by decide) (Nat.le_of_ble_eq_true rfl) rfl ?_
  intro p e s m args below meth c E hr hlk htab hZ hA
  refine k_aload_n E 2 rfl rfl dL_close_0 ?_
  refine k_iconst E (v := 0) (by decide) dL_close_1 ?_
  refine k_aload_n E 0 rfl rfl dL_close_2 ?_
  refine k_iload_n E 1 rfl rfl dL_close_3 ?_
  refine k_callWV [.int x0] E hA hM cf_X2_close q_456 [oL k ao lf] [] (ws' := oL k ao lf :: W1) (by simp) (by simp) 1 he rfl rfl rfl ⟨show f + 1 ≤ 14 by omega, show 8 + (3 + 11) + lo ≤ 700 by omega⟩ (Nat.le_of_ble_eq_true rfl) ⟨show 0 + mc ≤ 4 by omega, show 0 + ms ≤ 24 by omega⟩ dL_close_4 ?_
  refine k_i2l E (v := v.toInt64) rfl dL_close_7 ?_
  refine k_last E (ws' := (oL k ao (vp_updL lf 0 v.toInt64) :: W1)) 0 3 rfl rfl (j := 0) rfl (by decide) (by decide) rfl dL_close_8 ?_
  refine k_goto E (tgt := 21) (by decide) dL_close_9 ?_
  refine k_iconst E (v := 0) (by decide) dL_close_21 ?_
  exact kx_iret E hr hlk rfl rfl rfl (by omega) (by omega) dL_close_22
set_option maxRecDepth 100000 in
theorem w_close_i {f lo mc ms : Nat} (l : Launch) (D : va_G) (k : Nat → ClassId) (ao b : Nat) (lf : Nat → Int64) (x0 : Int32) (Wc : va_W) {fs : List Value} (hf : f ≤ 12) (hlo : lo ≤ 600) (hmc : mc ≤ 4) (hms : ms ≤ 24) (he : Wc[0]? = some (b, .inr (2, fs))) (hM : mX l yX2_close cX2_close 3 (some .int) f lo mc ms D (kTy k) [.ref b, .int x0] Wc (.inr "java/lang/IndexOutOfBoundsException")) : mH l yL_close cL_close 4 (some .int) [(0, 9, 12, 21), (0, 9, 15, 45), (0, 9, 18, 15)] 14 700 4 24 D (kTy k) [.ref b, .int x0, .ref ao] (oL k ao lf :: Wc) (.inl (some (.int 1), (oL k ao lf :: Wc))) := by
  refine mH.of (lv' := [(0, .ref b), (1, .int x0), (2, .ref ao)]) (by decide) (Nat.le_of_ble_eq_true rfl) rfl ?_
  intro p e s m args below meth c E hr hlk htab hZ hA
  refine k_aload_n E 2 rfl rfl dL_close_0 ?_
  refine k_iconst E (v := 0) (by decide) dL_close_1 ?_
  refine k_aload_n E 0 rfl rfl dL_close_2 ?_
  refine k_iload_n E 1 rfl rfl dL_close_3 ?_
  refine k_callXV [.int x0] E hA hZ hM cf_X2_close q_456 [oL k ao lf] [] (by simp) 1 he rfl rfl rfl ⟨show f + 1 ≤ 14 by omega, show 8 + (3 + 11) + lo ≤ 700 by omega⟩ (Nat.le_of_ble_eq_true rfl) ⟨show 0 + mc ≤ 4 by omega, show 0 + ms ≤ 24 by omega⟩ dL_close_4 (fun v W1 q => nomatch q) (fun X q => ?_)
  cases q
  refine k_xcatch E htab (tableOf []) (⟨0, 9, 12, 21⟩ : ExceptionTableEntry) (tableOf [(0, 9, 15, 45), (0, 9, 18, 15)]) rfl (fun z hz => ?_) (by decide) (by decide) q_248 (by decide +kernel) (fun q => ?_)
  · exact nomatch hz
  refine k_astore_n (lv' := [(3, .ref q), (0, .ref b), (1, .int x0), (2, .ref ao)]) E rfl (by decide) rfl dL_close_12 ?_
  refine k_iconst E (v := 1) (by decide) dL_close_13 ?_
  exact kx_iret E hr hlk rfl rfl rfl (by omega) (by omega) dL_close_14
set_option maxRecDepth 100000 in
theorem w_close_u {f lo mc ms : Nat} (l : Launch) (D : va_G) (k : Nat → ClassId) (ao b : Nat) (lf : Nat → Int64) (x0 : Int32) (Wc : va_W) {fs : List Value} (hf : f ≤ 12) (hlo : lo ≤ 600) (hmc : mc ≤ 4) (hms : ms ≤ 24) (he : Wc[0]? = some (b, .inr (2, fs))) (hM : mX l yX2_close cX2_close 3 (some .int) f lo mc ms D (kTy k) [.ref b, .int x0] Wc (.inr "java/lang/UnsupportedOperationException")) : mH l yL_close cL_close 4 (some .int) [(0, 9, 12, 21), (0, 9, 15, 45), (0, 9, 18, 15)] 14 700 4 24 D (kTy k) [.ref b, .int x0, .ref ao] (oL k ao lf :: Wc) (.inl (some (.int 2), (oL k ao lf :: Wc))) := by
  refine mH.of (lv' := [(0, .ref b), (1, .int x0), (2, .ref ao)]) (by decide) (Nat.le_of_ble_eq_true rfl) rfl ?_
  intro p e s m args below meth c E hr hlk htab hZ hA
  refine k_aload_n E 2 rfl rfl dL_close_0 ?_
  refine k_iconst E (v := 0) (by decide) dL_close_1 ?_
  refine k_aload_n E 0 rfl rfl dL_close_2 ?_
  refine k_iload_n E 1 rfl rfl dL_close_3 ?_
  refine k_callXV [.int x0] E hA hZ hM cf_X2_close q_456 [oL k ao lf] [] (by simp) 1 he rfl rfl rfl ⟨show f + 1 ≤ 14 by omega, show 8 + (3 + 11) + lo ≤ 700 by omega⟩ (Nat.le_of_ble_eq_true rfl) ⟨show 0 + mc ≤ 4 by omega, show 0 + ms ≤ 24 by omega⟩ dL_close_4 (fun v W1 q => nomatch q) (fun X q => ?_)
  cases q
  refine k_xcatch E htab (tableOf [(0, 9, 12, 21)]) (⟨0, 9, 15, 45⟩ : ExceptionTableEntry) (tableOf [(0, 9, 18, 15)]) rfl (fun z hz => ?_) (by decide) (by decide) q_382 (by decide +kernel) (fun q => ?_)
  · exact List.mem_cons.mp hz |>.elim (fun q => q ▸ Or.inr ⟨by decide, _, q_248, by decide +kernel⟩) (fun hz => nomatch hz)
  refine k_astore_n (lv' := [(3, .ref q), (0, .ref b), (1, .int x0), (2, .ref ao)]) E rfl (by decide) rfl dL_close_15 ?_
  refine k_iconst E (v := 2) (by decide) dL_close_16 ?_
  exact kx_iret E hr hlk rfl rfl rfl (by omega) (by omega) dL_close_17
set_option maxRecDepth 100000 in
theorem w_close_s {f lo mc ms : Nat} (l : Launch) (D : va_G) (k : Nat → ClassId) (ao b : Nat) (lf : Nat → Int64) (x0 : Int32) (Wc : va_W) {fs : List Value} (hf : f ≤ 12) (hlo : lo ≤ 600) (hmc : mc ≤ 4) (hms : ms ≤ 24) (he : Wc[0]? = some (b, .inr (2, fs))) (hM : mX l yX2_close cX2_close 3 (some .int) f lo mc ms D (kTy k) [.ref b, .int x0] Wc (.inr "java/lang/IllegalStateException")) : mH l yL_close cL_close 4 (some .int) [(0, 9, 12, 21), (0, 9, 15, 45), (0, 9, 18, 15)] 14 700 4 24 D (kTy k) [.ref b, .int x0, .ref ao] (oL k ao lf :: Wc) (.inl (some (.int 3), (oL k ao lf :: Wc))) := by
  refine mH.of (lv' := [(0, .ref b), (1, .int x0), (2, .ref ao)]) (by decide) (Nat.le_of_ble_eq_true rfl) rfl ?_
  intro p e s m args below meth c E hr hlk htab hZ hA
  refine k_aload_n E 2 rfl rfl dL_close_0 ?_
  refine k_iconst E (v := 0) (by decide) dL_close_1 ?_
  refine k_aload_n E 0 rfl rfl dL_close_2 ?_
  refine k_iload_n E 1 rfl rfl dL_close_3 ?_
  refine k_callXV [.int x0] E hA hZ hM cf_X2_close q_456 [oL k ao lf] [] (by simp) 1 he rfl rfl rfl ⟨show f + 1 ≤ 14 by omega, show 8 + (3 + 11) + lo ≤ 700 by omega⟩ (Nat.le_of_ble_eq_true rfl) ⟨show 0 + mc ≤ 4 by omega, show 0 + ms ≤ 24 by omega⟩ dL_close_4 (fun v W1 q => nomatch q) (fun X q => ?_)
  cases q
  refine k_xcatch E htab (tableOf [(0, 9, 12, 21), (0, 9, 15, 45)]) (⟨0, 9, 18, 15⟩ : ExceptionTableEntry) (tableOf []) rfl (fun z hz => ?_) (by decide) (by decide) q_148 (by decide +kernel) (fun q => ?_)
  · exact List.mem_cons.mp hz |>.elim (fun q => q ▸ Or.inr ⟨by decide, _, q_248, by decide +kernel⟩) (fun hz => List.mem_cons.mp hz |>.elim (fun q => q ▸ Or.inr ⟨by decide, _, q_382, by decide +kernel⟩) (fun hz => nomatch hz))
  refine k_astore_n (lv' := [(3, .ref q), (0, .ref b), (1, .int x0), (2, .ref ao)]) E rfl (by decide) rfl dL_close_18 ?_
  refine k_iconst E (v := 3) (by decide) dL_close_19 ?_
  exact kx_iret E hr hlk rfl rfl rfl (by omega) (by omega) dL_close_20
set_option maxRecDepth 100000 in
theorem w_farmOf {f lo : Nat} (l : Launch) (D : va_G) (k : Nat → ClassId) (ao b : Nat) (lf : Nat → Int64) (x0 : Int32) (Wc : va_W) {fs : List Value} (hf : f ≤ 12) (hlo : lo ≤ 600) (he : Wc[0]? = some (b, .inr (2, fs))) (v : Int32) (hM : mR l yX2_farmOf cX2_farmOf 2 (some .int) f lo D (kTy k) [.ref b, .int x0] Wc (some (.int v))) : mH l yL_farmOf cL_farmOf 4 (some .int) [(0, 9, 12, 21)] 14 700 4 24 D (kTy k) [.ref b, .int x0, .ref ao] (oL k ao lf :: Wc) (.inl (some (.int 0), (oL k ao (vp_updL lf 0 v.toInt64) :: Wc))) := by
  refine mH.of (lv' := [(0, .ref b), (1, .int x0), (2, .ref ao)]) (by decide) (Nat.le_of_ble_eq_true rfl) rfl ?_
  intro p e s m args below meth c E hr hlk htab hZ hA
  refine k_aload_n E 2 rfl rfl dL_farmOf_0 ?_
  refine k_iconst E (v := 0) (by decide) dL_farmOf_1 ?_
  refine k_aload_n E 0 rfl rfl dL_farmOf_2 ?_
  refine k_iload_n E 1 rfl rfl dL_farmOf_3 ?_
  refine k_callRV [.int x0] E hM cf_X2_farmOf q_500 (List.range' 1 Wc.length) (by have q9 := fm_mid [oL k ao lf] Wc []; simpa using q9) 1 he rfl rfl rfl ⟨show f + 1 ≤ 14 by omega, show 8 + (2 + 11) + lo ≤ 700 by omega⟩ (Nat.le_of_ble_eq_true rfl) ⟨by decide, by decide⟩ dL_farmOf_4 ?_
  refine k_i2l E (v := v.toInt64) rfl dL_farmOf_7 ?_
  refine k_last E (ws' := (oL k ao (vp_updL lf 0 v.toInt64) :: Wc)) 0 3 rfl rfl (j := 0) rfl (by decide) (by decide) rfl dL_farmOf_8 ?_
  refine k_goto E (tgt := 15) (by decide) dL_farmOf_9 ?_
  refine k_iconst E (v := 0) (by decide) dL_farmOf_15 ?_
  exact kx_iret E hr hlk rfl rfl rfl (by omega) (by omega) dL_farmOf_16
set_option maxRecDepth 100000 in
theorem w_farmOf_w {f lo mc ms : Nat} (l : Launch) (D : va_G) (k : Nat → ClassId) (ao b : Nat) (lf : Nat → Int64) (x0 : Int32) (Wc : va_W) {fs : List Value} (hf : f ≤ 12) (hlo : lo ≤ 600) (hmc : mc ≤ 4) (hms : ms ≤ 24) (he : Wc[0]? = some (b, .inr (2, fs))) (v : Int32) (W1 : va_W) (hM : mW l yX2_farmOf cX2_farmOf 2 (some .int) f lo mc ms D (kTy k) [.ref b, .int x0] Wc (some (.int v)) W1) : mH l yL_farmOf cL_farmOf 4 (some .int) [(0, 9, 12, 21)] 14 700 4 24 D (kTy k) [.ref b, .int x0, .ref ao] (oL k ao lf :: Wc) (.inl (some (.int 0), (oL k ao (vp_updL lf 0 v.toInt64) :: W1))) := by
  refine mH.of (lv' := [(0, .ref b), (1, .int x0), (2, .ref ao)]) (by decide) (Nat.le_of_ble_eq_true rfl) rfl ?_
  intro p e s m args below meth c E hr hlk htab hZ hA
  refine k_aload_n E 2 rfl rfl dL_farmOf_0 ?_
  refine k_iconst E (v := 0) (by decide) dL_farmOf_1 ?_
  refine k_aload_n E 0 rfl rfl dL_farmOf_2 ?_
  refine k_iload_n E 1 rfl rfl dL_farmOf_3 ?_
  refine k_callWV [.int x0] E hA hM cf_X2_farmOf q_500 [oL k ao lf] [] (ws' := oL k ao lf :: W1) (by simp) (by simp) 1 he rfl rfl rfl ⟨show f + 1 ≤ 14 by omega, show 8 + (2 + 11) + lo ≤ 700 by omega⟩ (Nat.le_of_ble_eq_true rfl) ⟨show 0 + mc ≤ 4 by omega, show 0 + ms ≤ 24 by omega⟩ dL_farmOf_4 ?_
  refine k_i2l E (v := v.toInt64) rfl dL_farmOf_7 ?_
  refine k_last E (ws' := (oL k ao (vp_updL lf 0 v.toInt64) :: W1)) 0 3 rfl rfl (j := 0) rfl (by decide) (by decide) rfl dL_farmOf_8 ?_
  refine k_goto E (tgt := 15) (by decide) dL_farmOf_9 ?_
  refine k_iconst E (v := 0) (by decide) dL_farmOf_15 ?_
  exact kx_iret E hr hlk rfl rfl rfl (by omega) (by omega) dL_farmOf_16
set_option maxRecDepth 100000 in
theorem w_farmOf_i {f lo mc ms : Nat} (l : Launch) (D : va_G) (k : Nat → ClassId) (ao b : Nat) (lf : Nat → Int64) (x0 : Int32) (Wc : va_W) {fs : List Value} (hf : f ≤ 12) (hlo : lo ≤ 600) (hmc : mc ≤ 4) (hms : ms ≤ 24) (he : Wc[0]? = some (b, .inr (2, fs))) (hM : mX l yX2_farmOf cX2_farmOf 2 (some .int) f lo mc ms D (kTy k) [.ref b, .int x0] Wc (.inr "java/lang/IndexOutOfBoundsException")) : mH l yL_farmOf cL_farmOf 4 (some .int) [(0, 9, 12, 21)] 14 700 4 24 D (kTy k) [.ref b, .int x0, .ref ao] (oL k ao lf :: Wc) (.inl (some (.int 1), (oL k ao lf :: Wc))) := by
  refine mH.of (lv' := [(0, .ref b), (1, .int x0), (2, .ref ao)]) (by decide) (Nat.le_of_ble_eq_true rfl) rfl ?_
  intro p e s m args below meth c E hr hlk htab hZ hA
  refine k_aload_n E 2 rfl rfl dL_farmOf_0 ?_
  refine k_iconst E (v := 0) (by decide) dL_farmOf_1 ?_
  refine k_aload_n E 0 rfl rfl dL_farmOf_2 ?_
  refine k_iload_n E 1 rfl rfl dL_farmOf_3 ?_
  refine k_callXV [.int x0] E hA hZ hM cf_X2_farmOf q_500 [oL k ao lf] [] (by simp) 1 he rfl rfl rfl ⟨show f + 1 ≤ 14 by omega, show 8 + (2 + 11) + lo ≤ 700 by omega⟩ (Nat.le_of_ble_eq_true rfl) ⟨show 0 + mc ≤ 4 by omega, show 0 + ms ≤ 24 by omega⟩ dL_farmOf_4 (fun v W1 q => nomatch q) (fun X q => ?_)
  cases q
  refine k_xcatch E htab (tableOf []) (⟨0, 9, 12, 21⟩ : ExceptionTableEntry) (tableOf []) rfl (fun z hz => ?_) (by decide) (by decide) q_248 (by decide +kernel) (fun q => ?_)
  · exact nomatch hz
  refine k_astore_n (lv' := [(3, .ref q), (0, .ref b), (1, .int x0), (2, .ref ao)]) E rfl (by decide) rfl dL_farmOf_12 ?_
  refine k_iconst E (v := 1) (by decide) dL_farmOf_13 ?_
  exact kx_iret E hr hlk rfl rfl rfl (by omega) (by omega) dL_farmOf_14
set_option maxRecDepth 100000 in
theorem w_litres {f lo : Nat} (l : Launch) (D : va_G) (k : Nat → ClassId) (ao b : Nat) (lf : Nat → Int64) (x0 : Int32) (Wc : va_W) {fs : List Value} (hf : f ≤ 12) (hlo : lo ≤ 600) (he : Wc[0]? = some (b, .inr (2, fs))) (v : Int32) (hM : mR l yX2_litres cX2_litres 2 (some .int) f lo D (kTy k) [.ref b, .int x0] Wc (some (.int v))) : mH l yL_litres cL_litres 4 (some .int) [(0, 9, 12, 21)] 14 700 4 24 D (kTy k) [.ref b, .int x0, .ref ao] (oL k ao lf :: Wc) (.inl (some (.int 0), (oL k ao (vp_updL lf 0 v.toInt64) :: Wc))) := by
  refine mH.of (lv' := [(0, .ref b), (1, .int x0), (2, .ref ao)]) (by decide) (Nat.le_of_ble_eq_true rfl) rfl ?_
  intro p e s m args below meth c E hr hlk htab hZ hA
  refine k_aload_n E 2 rfl rfl dL_litres_0 ?_
  refine k_iconst E (v := 0) (by decide) dL_litres_1 ?_
  refine k_aload_n E 0 rfl rfl dL_litres_2 ?_
  refine k_iload_n E 1 rfl rfl dL_litres_3 ?_
  refine k_callRV [.int x0] E hM cf_X2_litres q_512 (List.range' 1 Wc.length) (by have q9 := fm_mid [oL k ao lf] Wc []; simpa using q9) 1 he rfl rfl rfl ⟨show f + 1 ≤ 14 by omega, show 8 + (2 + 11) + lo ≤ 700 by omega⟩ (Nat.le_of_ble_eq_true rfl) ⟨by decide, by decide⟩ dL_litres_4 ?_
  refine k_i2l E (v := v.toInt64) rfl dL_litres_7 ?_
  refine k_last E (ws' := (oL k ao (vp_updL lf 0 v.toInt64) :: Wc)) 0 3 rfl rfl (j := 0) rfl (by decide) (by decide) rfl dL_litres_8 ?_
  refine k_goto E (tgt := 15) (by decide) dL_litres_9 ?_
  refine k_iconst E (v := 0) (by decide) dL_litres_15 ?_
  exact kx_iret E hr hlk rfl rfl rfl (by omega) (by omega) dL_litres_16
set_option maxRecDepth 100000 in
theorem w_litres_w {f lo mc ms : Nat} (l : Launch) (D : va_G) (k : Nat → ClassId) (ao b : Nat) (lf : Nat → Int64) (x0 : Int32) (Wc : va_W) {fs : List Value} (hf : f ≤ 12) (hlo : lo ≤ 600) (hmc : mc ≤ 4) (hms : ms ≤ 24) (he : Wc[0]? = some (b, .inr (2, fs))) (v : Int32) (W1 : va_W) (hM : mW l yX2_litres cX2_litres 2 (some .int) f lo mc ms D (kTy k) [.ref b, .int x0] Wc (some (.int v)) W1) : mH l yL_litres cL_litres 4 (some .int) [(0, 9, 12, 21)] 14 700 4 24 D (kTy k) [.ref b, .int x0, .ref ao] (oL k ao lf :: Wc) (.inl (some (.int 0), (oL k ao (vp_updL lf 0 v.toInt64) :: W1))) := by
  refine mH.of (lv' := [(0, .ref b), (1, .int x0), (2, .ref ao)]) (by decide) (Nat.le_of_ble_eq_true rfl) rfl ?_
  intro p e s m args below meth c E hr hlk htab hZ hA
  refine k_aload_n E 2 rfl rfl dL_litres_0 ?_
  refine k_iconst E (v := 0) (by decide) dL_litres_1 ?_
  refine k_aload_n E 0 rfl rfl dL_litres_2 ?_
  refine k_iload_n E 1 rfl rfl dL_litres_3 ?_
  refine k_callWV [.int x0] E hA hM cf_X2_litres q_512 [oL k ao lf] [] (ws' := oL k ao lf :: W1) (by simp) (by simp) 1 he rfl rfl rfl ⟨show f + 1 ≤ 14 by omega, show 8 + (2 + 11) + lo ≤ 700 by omega⟩ (Nat.le_of_ble_eq_true rfl) ⟨show 0 + mc ≤ 4 by omega, show 0 + ms ≤ 24 by omega⟩ dL_litres_4 ?_
  refine k_i2l E (v := v.toInt64) rfl dL_litres_7 ?_
  refine k_last E (ws' := (oL k ao (vp_updL lf 0 v.toInt64) :: W1)) 0 3 rfl rfl (j := 0) rfl (by decide) (by decide) rfl dL_litres_8 ?_
  refine k_goto E (tgt := 15) (by decide) dL_litres_9 ?_
  refine k_iconst E (v := 0) (by decide) dL_litres_15 ?_
  exact kx_iret E hr hlk rfl rfl rfl (by omega) (by omega) dL_litres_16
set_option maxRecDepth 100000 in
theorem w_litres_i {f lo mc ms : Nat} (l : Launch) (D : va_G) (k : Nat → ClassId) (ao b : Nat) (lf : Nat → Int64) (x0 : Int32) (Wc : va_W) {fs : List Value} (hf : f ≤ 12) (hlo : lo ≤ 600) (hmc : mc ≤ 4) (hms : ms ≤ 24) (he : Wc[0]? = some (b, .inr (2, fs))) (hM : mX l yX2_litres cX2_litres 2 (some .int) f lo mc ms D (kTy k) [.ref b, .int x0] Wc (.inr "java/lang/IndexOutOfBoundsException")) : mH l yL_litres cL_litres 4 (some .int) [(0, 9, 12, 21)] 14 700 4 24 D (kTy k) [.ref b, .int x0, .ref ao] (oL k ao lf :: Wc) (.inl (some (.int 1), (oL k ao lf :: Wc))) := by
  refine mH.of (lv' := [(0, .ref b), (1, .int x0), (2, .ref ao)]) (by decide) (Nat.le_of_ble_eq_true rfl) rfl ?_
  intro p e s m args below meth c E hr hlk htab hZ hA
  refine k_aload_n E 2 rfl rfl dL_litres_0 ?_
  refine k_iconst E (v := 0) (by decide) dL_litres_1 ?_
  refine k_aload_n E 0 rfl rfl dL_litres_2 ?_
  refine k_iload_n E 1 rfl rfl dL_litres_3 ?_
  refine k_callXV [.int x0] E hA hZ hM cf_X2_litres q_512 [oL k ao lf] [] (by simp) 1 he rfl rfl rfl ⟨show f + 1 ≤ 14 by omega, show 8 + (2 + 11) + lo ≤ 700 by omega⟩ (Nat.le_of_ble_eq_true rfl) ⟨show 0 + mc ≤ 4 by omega, show 0 + ms ≤ 24 by omega⟩ dL_litres_4 (fun v W1 q => nomatch q) (fun X q => ?_)
  cases q
  refine k_xcatch E htab (tableOf []) (⟨0, 9, 12, 21⟩ : ExceptionTableEntry) (tableOf []) rfl (fun z hz => ?_) (by decide) (by decide) q_248 (by decide +kernel) (fun q => ?_)
  · exact nomatch hz
  refine k_astore_n (lv' := [(3, .ref q), (0, .ref b), (1, .int x0), (2, .ref ao)]) E rfl (by decide) rfl dL_litres_12 ?_
  refine k_iconst E (v := 1) (by decide) dL_litres_13 ?_
  exact kx_iret E hr hlk rfl rfl rfl (by omega) (by omega) dL_litres_14
set_option maxRecDepth 100000 in
theorem w_grade {f lo : Nat} (l : Launch) (D : va_G) (k : Nat → ClassId) (ao b : Nat) (lf : Nat → Int64) (x0 : Int32) (x1 : Int32) (Wc : va_W) {fs : List Value} (hf : f ≤ 12) (hlo : lo ≤ 600) (he : Wc[0]? = some (b, .inr (2, fs))) (v : Int32) (hM : mR l yX2_grade cX2_grade 3 (some .int) f lo D (kTy k) [.ref b, .int x0, .int x1] Wc (some (.int v))) : mH l yL_grade cL_grade 5 (some .int) [(0, 10, 13, 21), (0, 10, 17, 13), (0, 10, 21, 15)] 14 700 4 24 D (kTy k) [.ref b, .int x0, .int x1, .ref ao] (oL k ao lf :: Wc) (.inl (some (.int 0), (oL k ao (vp_updL lf 0 v.toInt64) :: Wc))) := by
  refine mH.of (lv' := [(0, .ref b), (1, .int x0), (2, .int x1), (3, .ref ao)]) (by decide) (Nat.le_of_ble_eq_true rfl) rfl ?_
  intro p e s m args below meth c E hr hlk htab hZ hA
  refine k_aload_n E 3 rfl rfl dL_grade_0 ?_
  refine k_iconst E (v := 0) (by decide) dL_grade_1 ?_
  refine k_aload_n E 0 rfl rfl dL_grade_2 ?_
  refine k_iload_n E 1 rfl rfl dL_grade_3 ?_
  refine k_iload_n E 2 rfl rfl dL_grade_4 ?_
  refine k_callRV [.int x0, .int x1] E hM cf_X2_grade q_519 (List.range' 1 Wc.length) (by have q9 := fm_mid [oL k ao lf] Wc []; simpa using q9) 1 he rfl rfl rfl ⟨show f + 1 ≤ 14 by omega, show 8 + (3 + 11) + lo ≤ 700 by omega⟩ (Nat.le_of_ble_eq_true rfl) ⟨by decide, by decide⟩ dL_grade_5 ?_
  refine k_i2l E (v := v.toInt64) rfl dL_grade_8 ?_
  refine k_last E (ws' := (oL k ao (vp_updL lf 0 v.toInt64) :: Wc)) 0 3 rfl rfl (j := 0) rfl (by decide) (by decide) rfl dL_grade_9 ?_
  refine k_goto E (tgt := 25) (by decide) dL_grade_10 ?_
  refine k_iconst E (v := 0) (by decide) dL_grade_25 ?_
  exact kx_iret E hr hlk rfl rfl rfl (by omega) (by omega) dL_grade_26
set_option maxRecDepth 100000 in
theorem w_grade_w {f lo mc ms : Nat} (l : Launch) (D : va_G) (k : Nat → ClassId) (ao b : Nat) (lf : Nat → Int64) (x0 : Int32) (x1 : Int32) (Wc : va_W) {fs : List Value} (hf : f ≤ 12) (hlo : lo ≤ 600) (hmc : mc ≤ 4) (hms : ms ≤ 24) (he : Wc[0]? = some (b, .inr (2, fs))) (v : Int32) (W1 : va_W) (hM : mW l yX2_grade cX2_grade 3 (some .int) f lo mc ms D (kTy k) [.ref b, .int x0, .int x1] Wc (some (.int v)) W1) : mH l yL_grade cL_grade 5 (some .int) [(0, 10, 13, 21), (0, 10, 17, 13), (0, 10, 21, 15)] 14 700 4 24 D (kTy k) [.ref b, .int x0, .int x1, .ref ao] (oL k ao lf :: Wc) (.inl (some (.int 0), (oL k ao (vp_updL lf 0 v.toInt64) :: W1))) := by
  refine mH.of (lv' := [(0, .ref b), (1, .int x0), (2, .int x1), (3, .ref ao)]) (by decide) (Nat.le_of_ble_eq_true rfl) rfl ?_
  intro p e s m args below meth c E hr hlk htab hZ hA
  refine k_aload_n E 3 rfl rfl dL_grade_0 ?_
  refine k_iconst E (v := 0) (by decide) dL_grade_1 ?_
  refine k_aload_n E 0 rfl rfl dL_grade_2 ?_
  refine k_iload_n E 1 rfl rfl dL_grade_3 ?_
  refine k_iload_n E 2 rfl rfl dL_grade_4 ?_
  refine k_callWV [.int x0, .int x1] E hA hM cf_X2_grade q_519 [oL k ao lf] [] (ws' := oL k ao lf :: W1) (by simp) (by simp) 1 he rfl rfl rfl ⟨show f + 1 ≤ 14 by omega, show 8 + (3 + 11) + lo ≤ 700 by omega⟩ (Nat.le_of_ble_eq_true rfl) ⟨show 0 + mc ≤ 4 by omega, show 0 + ms ≤ 24 by omega⟩ dL_grade_5 ?_
  refine k_i2l E (v := v.toInt64) rfl dL_grade_8 ?_
  refine k_last E (ws' := (oL k ao (vp_updL lf 0 v.toInt64) :: W1)) 0 3 rfl rfl (j := 0) rfl (by decide) (by decide) rfl dL_grade_9 ?_
  refine k_goto E (tgt := 25) (by decide) dL_grade_10 ?_
  refine k_iconst E (v := 0) (by decide) dL_grade_25 ?_
  exact kx_iret E hr hlk rfl rfl rfl (by omega) (by omega) dL_grade_26
set_option maxRecDepth 100000 in
theorem w_grade_i {f lo mc ms : Nat} (l : Launch) (D : va_G) (k : Nat → ClassId) (ao b : Nat) (lf : Nat → Int64) (x0 : Int32) (x1 : Int32) (Wc : va_W) {fs : List Value} (hf : f ≤ 12) (hlo : lo ≤ 600) (hmc : mc ≤ 4) (hms : ms ≤ 24) (he : Wc[0]? = some (b, .inr (2, fs))) (hM : mX l yX2_grade cX2_grade 3 (some .int) f lo mc ms D (kTy k) [.ref b, .int x0, .int x1] Wc (.inr "java/lang/IndexOutOfBoundsException")) : mH l yL_grade cL_grade 5 (some .int) [(0, 10, 13, 21), (0, 10, 17, 13), (0, 10, 21, 15)] 14 700 4 24 D (kTy k) [.ref b, .int x0, .int x1, .ref ao] (oL k ao lf :: Wc) (.inl (some (.int 1), (oL k ao lf :: Wc))) := by
  refine mH.of (lv' := [(0, .ref b), (1, .int x0), (2, .int x1), (3, .ref ao)]) (by decide) (Nat.le_of_ble_eq_true rfl) rfl ?_
  intro p e s m args below meth c E hr hlk htab hZ hA
  refine k_aload_n E 3 rfl rfl dL_grade_0 ?_
  refine k_iconst E (v := 0) (by decide) dL_grade_1 ?_
  refine k_aload_n E 0 rfl rfl dL_grade_2 ?_
  refine k_iload_n E 1 rfl rfl dL_grade_3 ?_
  refine k_iload_n E 2 rfl rfl dL_grade_4 ?_
  refine k_callXV [.int x0, .int x1] E hA hZ hM cf_X2_grade q_519 [oL k ao lf] [] (by simp) 1 he rfl rfl rfl ⟨show f + 1 ≤ 14 by omega, show 8 + (3 + 11) + lo ≤ 700 by omega⟩ (Nat.le_of_ble_eq_true rfl) ⟨show 0 + mc ≤ 4 by omega, show 0 + ms ≤ 24 by omega⟩ dL_grade_5 (fun v W1 q => nomatch q) (fun X q => ?_)
  cases q
  refine k_xcatch E htab (tableOf []) (⟨0, 10, 13, 21⟩ : ExceptionTableEntry) (tableOf [(0, 10, 17, 13), (0, 10, 21, 15)]) rfl (fun z hz => ?_) (by decide) (by decide) q_248 (by decide +kernel) (fun q => ?_)
  · exact nomatch hz
  refine k_astore (lv' := [(4, .ref q), (0, .ref b), (1, .int x0), (2, .int x1), (3, .ref ao)]) E (by decide) rfl dL_grade_13 ?_
  refine k_iconst E (v := 1) (by decide) dL_grade_15 ?_
  exact kx_iret E hr hlk rfl rfl rfl (by omega) (by omega) dL_grade_16
set_option maxRecDepth 100000 in
theorem w_grade_a {f lo mc ms : Nat} (l : Launch) (D : va_G) (k : Nat → ClassId) (ao b : Nat) (lf : Nat → Int64) (x0 : Int32) (x1 : Int32) (Wc : va_W) {fs : List Value} (hf : f ≤ 12) (hlo : lo ≤ 600) (hmc : mc ≤ 4) (hms : ms ≤ 24) (he : Wc[0]? = some (b, .inr (2, fs))) (hM : mX l yX2_grade cX2_grade 3 (some .int) f lo mc ms D (kTy k) [.ref b, .int x0, .int x1] Wc (.inr "java/lang/IllegalArgumentException")) : mH l yL_grade cL_grade 5 (some .int) [(0, 10, 13, 21), (0, 10, 17, 13), (0, 10, 21, 15)] 14 700 4 24 D (kTy k) [.ref b, .int x0, .int x1, .ref ao] (oL k ao lf :: Wc) (.inl (some (.int 2), (oL k ao lf :: Wc))) := by
  refine mH.of (lv' := [(0, .ref b), (1, .int x0), (2, .int x1), (3, .ref ao)]) (by decide) (Nat.le_of_ble_eq_true rfl) rfl ?_
  intro p e s m args below meth c E hr hlk htab hZ hA
  refine k_aload_n E 3 rfl rfl dL_grade_0 ?_
  refine k_iconst E (v := 0) (by decide) dL_grade_1 ?_
  refine k_aload_n E 0 rfl rfl dL_grade_2 ?_
  refine k_iload_n E 1 rfl rfl dL_grade_3 ?_
  refine k_iload_n E 2 rfl rfl dL_grade_4 ?_
  refine k_callXV [.int x0, .int x1] E hA hZ hM cf_X2_grade q_519 [oL k ao lf] [] (by simp) 1 he rfl rfl rfl ⟨show f + 1 ≤ 14 by omega, show 8 + (3 + 11) + lo ≤ 700 by omega⟩ (Nat.le_of_ble_eq_true rfl) ⟨show 0 + mc ≤ 4 by omega, show 0 + ms ≤ 24 by omega⟩ dL_grade_5 (fun v W1 q => nomatch q) (fun X q => ?_)
  cases q
  refine k_xcatch E htab (tableOf [(0, 10, 13, 21)]) (⟨0, 10, 17, 13⟩ : ExceptionTableEntry) (tableOf [(0, 10, 21, 15)]) rfl (fun z hz => ?_) (by decide) (by decide) q_147 (by decide +kernel) (fun q => ?_)
  · exact List.mem_cons.mp hz |>.elim (fun q => q ▸ Or.inr ⟨by decide, _, q_248, by decide +kernel⟩) (fun hz => nomatch hz)
  refine k_astore (lv' := [(4, .ref q), (0, .ref b), (1, .int x0), (2, .int x1), (3, .ref ao)]) E (by decide) rfl dL_grade_17 ?_
  refine k_iconst E (v := 2) (by decide) dL_grade_19 ?_
  exact kx_iret E hr hlk rfl rfl rfl (by omega) (by omega) dL_grade_20
set_option maxRecDepth 100000 in
theorem w_grade_s {f lo mc ms : Nat} (l : Launch) (D : va_G) (k : Nat → ClassId) (ao b : Nat) (lf : Nat → Int64) (x0 : Int32) (x1 : Int32) (Wc : va_W) {fs : List Value} (hf : f ≤ 12) (hlo : lo ≤ 600) (hmc : mc ≤ 4) (hms : ms ≤ 24) (he : Wc[0]? = some (b, .inr (2, fs))) (hM : mX l yX2_grade cX2_grade 3 (some .int) f lo mc ms D (kTy k) [.ref b, .int x0, .int x1] Wc (.inr "java/lang/IllegalStateException")) : mH l yL_grade cL_grade 5 (some .int) [(0, 10, 13, 21), (0, 10, 17, 13), (0, 10, 21, 15)] 14 700 4 24 D (kTy k) [.ref b, .int x0, .int x1, .ref ao] (oL k ao lf :: Wc) (.inl (some (.int 3), (oL k ao lf :: Wc))) := by
  refine mH.of (lv' := [(0, .ref b), (1, .int x0), (2, .int x1), (3, .ref ao)]) (by decide) (Nat.le_of_ble_eq_true rfl) rfl ?_
  intro p e s m args below meth c E hr hlk htab hZ hA
  refine k_aload_n E 3 rfl rfl dL_grade_0 ?_
  refine k_iconst E (v := 0) (by decide) dL_grade_1 ?_
  refine k_aload_n E 0 rfl rfl dL_grade_2 ?_
  refine k_iload_n E 1 rfl rfl dL_grade_3 ?_
  refine k_iload_n E 2 rfl rfl dL_grade_4 ?_
  refine k_callXV [.int x0, .int x1] E hA hZ hM cf_X2_grade q_519 [oL k ao lf] [] (by simp) 1 he rfl rfl rfl ⟨show f + 1 ≤ 14 by omega, show 8 + (3 + 11) + lo ≤ 700 by omega⟩ (Nat.le_of_ble_eq_true rfl) ⟨show 0 + mc ≤ 4 by omega, show 0 + ms ≤ 24 by omega⟩ dL_grade_5 (fun v W1 q => nomatch q) (fun X q => ?_)
  cases q
  refine k_xcatch E htab (tableOf [(0, 10, 13, 21), (0, 10, 17, 13)]) (⟨0, 10, 21, 15⟩ : ExceptionTableEntry) (tableOf []) rfl (fun z hz => ?_) (by decide) (by decide) q_148 (by decide +kernel) (fun q => ?_)
  · exact List.mem_cons.mp hz |>.elim (fun q => q ▸ Or.inr ⟨by decide, _, q_248, by decide +kernel⟩) (fun hz => List.mem_cons.mp hz |>.elim (fun q => q ▸ Or.inr ⟨by decide, _, q_147, by decide +kernel⟩) (fun hz => nomatch hz))
  refine k_astore (lv' := [(4, .ref q), (0, .ref b), (1, .int x0), (2, .int x1), (3, .ref ao)]) E (by decide) rfl dL_grade_21 ?_
  refine k_iconst E (v := 3) (by decide) dL_grade_23 ?_
  exact kx_iret E hr hlk rfl rfl rfl (by omega) (by omega) dL_grade_24
set_option maxRecDepth 100000 in
theorem w_gradeOf {f lo : Nat} (l : Launch) (D : va_G) (k : Nat → ClassId) (ao b : Nat) (lf : Nat → Int64) (x0 : Int32) (Wc : va_W) {fs : List Value} (hf : f ≤ 12) (hlo : lo ≤ 600) (he : Wc[0]? = some (b, .inr (2, fs))) (v : Int32) (hM : mR l yX2_gradeOf cX2_gradeOf 2 (some .char) f lo D (kTy k) [.ref b, .int x0] Wc (some (.int v))) : mH l yL_gradeOf cL_gradeOf 4 (some .int) [(0, 9, 12, 21)] 14 700 4 24 D (kTy k) [.ref b, .int x0, .ref ao] (oL k ao lf :: Wc) (.inl (some (.int 0), (oL k ao (vp_updL lf 0 v.toInt64) :: Wc))) := by
  refine mH.of (lv' := [(0, .ref b), (1, .int x0), (2, .ref ao)]) (by decide) (Nat.le_of_ble_eq_true rfl) rfl ?_
  intro p e s m args below meth c E hr hlk htab hZ hA
  refine k_aload_n E 2 rfl rfl dL_gradeOf_0 ?_
  refine k_iconst E (v := 0) (by decide) dL_gradeOf_1 ?_
  refine k_aload_n E 0 rfl rfl dL_gradeOf_2 ?_
  refine k_iload_n E 1 rfl rfl dL_gradeOf_3 ?_
  refine k_callRV [.int x0] E hM cf_X2_gradeOf q_532 (List.range' 1 Wc.length) (by have q9 := fm_mid [oL k ao lf] Wc []; simpa using q9) 1 he rfl rfl rfl ⟨show f + 1 ≤ 14 by omega, show 8 + (2 + 11) + lo ≤ 700 by omega⟩ (Nat.le_of_ble_eq_true rfl) ⟨by decide, by decide⟩ dL_gradeOf_4 ?_
  refine k_i2l E (v := v.toInt64) rfl dL_gradeOf_7 ?_
  refine k_last E (ws' := (oL k ao (vp_updL lf 0 v.toInt64) :: Wc)) 0 3 rfl rfl (j := 0) rfl (by decide) (by decide) rfl dL_gradeOf_8 ?_
  refine k_goto E (tgt := 15) (by decide) dL_gradeOf_9 ?_
  refine k_iconst E (v := 0) (by decide) dL_gradeOf_15 ?_
  exact kx_iret E hr hlk rfl rfl rfl (by omega) (by omega) dL_gradeOf_16
set_option maxRecDepth 100000 in
theorem w_gradeOf_w {f lo mc ms : Nat} (l : Launch) (D : va_G) (k : Nat → ClassId) (ao b : Nat) (lf : Nat → Int64) (x0 : Int32) (Wc : va_W) {fs : List Value} (hf : f ≤ 12) (hlo : lo ≤ 600) (hmc : mc ≤ 4) (hms : ms ≤ 24) (he : Wc[0]? = some (b, .inr (2, fs))) (v : Int32) (W1 : va_W) (hM : mW l yX2_gradeOf cX2_gradeOf 2 (some .char) f lo mc ms D (kTy k) [.ref b, .int x0] Wc (some (.int v)) W1) : mH l yL_gradeOf cL_gradeOf 4 (some .int) [(0, 9, 12, 21)] 14 700 4 24 D (kTy k) [.ref b, .int x0, .ref ao] (oL k ao lf :: Wc) (.inl (some (.int 0), (oL k ao (vp_updL lf 0 v.toInt64) :: W1))) := by
  refine mH.of (lv' := [(0, .ref b), (1, .int x0), (2, .ref ao)]) (by decide) (Nat.le_of_ble_eq_true rfl) rfl ?_
  intro p e s m args below meth c E hr hlk htab hZ hA
  refine k_aload_n E 2 rfl rfl dL_gradeOf_0 ?_
  refine k_iconst E (v := 0) (by decide) dL_gradeOf_1 ?_
  refine k_aload_n E 0 rfl rfl dL_gradeOf_2 ?_
  refine k_iload_n E 1 rfl rfl dL_gradeOf_3 ?_
  refine k_callWV [.int x0] E hA hM cf_X2_gradeOf q_532 [oL k ao lf] [] (ws' := oL k ao lf :: W1) (by simp) (by simp) 1 he rfl rfl rfl ⟨show f + 1 ≤ 14 by omega, show 8 + (2 + 11) + lo ≤ 700 by omega⟩ (Nat.le_of_ble_eq_true rfl) ⟨show 0 + mc ≤ 4 by omega, show 0 + ms ≤ 24 by omega⟩ dL_gradeOf_4 ?_
  refine k_i2l E (v := v.toInt64) rfl dL_gradeOf_7 ?_
  refine k_last E (ws' := (oL k ao (vp_updL lf 0 v.toInt64) :: W1)) 0 3 rfl rfl (j := 0) rfl (by decide) (by decide) rfl dL_gradeOf_8 ?_
  refine k_goto E (tgt := 15) (by decide) dL_gradeOf_9 ?_
  refine k_iconst E (v := 0) (by decide) dL_gradeOf_15 ?_
  exact kx_iret E hr hlk rfl rfl rfl (by omega) (by omega) dL_gradeOf_16
set_option maxRecDepth 100000 in
theorem w_gradeOf_i {f lo mc ms : Nat} (l : Launch) (D : va_G) (k : Nat → ClassId) (ao b : Nat) (lf : Nat → Int64) (x0 : Int32) (Wc : va_W) {fs : List Value} (hf : f ≤ 12) (hlo : lo ≤ 600) (hmc : mc ≤ 4) (hms : ms ≤ 24) (he : Wc[0]? = some (b, .inr (2, fs))) (hM : mX l yX2_gradeOf cX2_gradeOf 2 (some .char) f lo mc ms D (kTy k) [.ref b, .int x0] Wc (.inr "java/lang/IndexOutOfBoundsException")) : mH l yL_gradeOf cL_gradeOf 4 (some .int) [(0, 9, 12, 21)] 14 700 4 24 D (kTy k) [.ref b, .int x0, .ref ao] (oL k ao lf :: Wc) (.inl (some (.int 1), (oL k ao lf :: Wc))) := by
  refine mH.of (lv' := [(0, .ref b), (1, .int x0), (2, .ref ao)]) (by decide) (Nat.le_of_ble_eq_true rfl) rfl ?_
  intro p e s m args below meth c E hr hlk htab hZ hA
  refine k_aload_n E 2 rfl rfl dL_gradeOf_0 ?_
  refine k_iconst E (v := 0) (by decide) dL_gradeOf_1 ?_
  refine k_aload_n E 0 rfl rfl dL_gradeOf_2 ?_
  refine k_iload_n E 1 rfl rfl dL_gradeOf_3 ?_
  refine k_callXV [.int x0] E hA hZ hM cf_X2_gradeOf q_532 [oL k ao lf] [] (by simp) 1 he rfl rfl rfl ⟨show f + 1 ≤ 14 by omega, show 8 + (2 + 11) + lo ≤ 700 by omega⟩ (Nat.le_of_ble_eq_true rfl) ⟨show 0 + mc ≤ 4 by omega, show 0 + ms ≤ 24 by omega⟩ dL_gradeOf_4 (fun v W1 q => nomatch q) (fun X q => ?_)
  cases q
  refine k_xcatch E htab (tableOf []) (⟨0, 9, 12, 21⟩ : ExceptionTableEntry) (tableOf []) rfl (fun z hz => ?_) (by decide) (by decide) q_248 (by decide +kernel) (fun q => ?_)
  · exact nomatch hz
  refine k_astore_n (lv' := [(3, .ref q), (0, .ref b), (1, .int x0), (2, .ref ao)]) E rfl (by decide) rfl dL_gradeOf_12 ?_
  refine k_iconst E (v := 1) (by decide) dL_gradeOf_13 ?_
  exact kx_iret E hr hlk rfl rfl rfl (by omega) (by omega) dL_gradeOf_14
set_option maxRecDepth 100000 in
theorem w_stateOf {f lo : Nat} (l : Launch) (D : va_G) (k : Nat → ClassId) (ao b : Nat) (lf : Nat → Int64) (x0 : Int32) (Wc : va_W) {fs : List Value} (hf : f ≤ 12) (hlo : lo ≤ 600) (he : Wc[0]? = some (b, .inr (2, fs))) (v : Int32) (hM : mR l yX2_stateOf cX2_stateOf 2 (some .char) f lo D (kTy k) [.ref b, .int x0] Wc (some (.int v))) : mH l yL_stateOf cL_stateOf 4 (some .int) [(0, 9, 12, 21)] 14 700 4 24 D (kTy k) [.ref b, .int x0, .ref ao] (oL k ao lf :: Wc) (.inl (some (.int 0), (oL k ao (vp_updL lf 0 v.toInt64) :: Wc))) := by
  refine mH.of (lv' := [(0, .ref b), (1, .int x0), (2, .ref ao)]) (by decide) (Nat.le_of_ble_eq_true rfl) rfl ?_
  intro p e s m args below meth c E hr hlk htab hZ hA
  refine k_aload_n E 2 rfl rfl dL_stateOf_0 ?_
  refine k_iconst E (v := 0) (by decide) dL_stateOf_1 ?_
  refine k_aload_n E 0 rfl rfl dL_stateOf_2 ?_
  refine k_iload_n E 1 rfl rfl dL_stateOf_3 ?_
  refine k_callRV [.int x0] E hM cf_X2_stateOf q_539 (List.range' 1 Wc.length) (by have q9 := fm_mid [oL k ao lf] Wc []; simpa using q9) 1 he rfl rfl rfl ⟨show f + 1 ≤ 14 by omega, show 8 + (2 + 11) + lo ≤ 700 by omega⟩ (Nat.le_of_ble_eq_true rfl) ⟨by decide, by decide⟩ dL_stateOf_4 ?_
  refine k_i2l E (v := v.toInt64) rfl dL_stateOf_7 ?_
  refine k_last E (ws' := (oL k ao (vp_updL lf 0 v.toInt64) :: Wc)) 0 3 rfl rfl (j := 0) rfl (by decide) (by decide) rfl dL_stateOf_8 ?_
  refine k_goto E (tgt := 15) (by decide) dL_stateOf_9 ?_
  refine k_iconst E (v := 0) (by decide) dL_stateOf_15 ?_
  exact kx_iret E hr hlk rfl rfl rfl (by omega) (by omega) dL_stateOf_16
set_option maxRecDepth 100000 in
theorem w_stateOf_w {f lo mc ms : Nat} (l : Launch) (D : va_G) (k : Nat → ClassId) (ao b : Nat) (lf : Nat → Int64) (x0 : Int32) (Wc : va_W) {fs : List Value} (hf : f ≤ 12) (hlo : lo ≤ 600) (hmc : mc ≤ 4) (hms : ms ≤ 24) (he : Wc[0]? = some (b, .inr (2, fs))) (v : Int32) (W1 : va_W) (hM : mW l yX2_stateOf cX2_stateOf 2 (some .char) f lo mc ms D (kTy k) [.ref b, .int x0] Wc (some (.int v)) W1) : mH l yL_stateOf cL_stateOf 4 (some .int) [(0, 9, 12, 21)] 14 700 4 24 D (kTy k) [.ref b, .int x0, .ref ao] (oL k ao lf :: Wc) (.inl (some (.int 0), (oL k ao (vp_updL lf 0 v.toInt64) :: W1))) := by
  refine mH.of (lv' := [(0, .ref b), (1, .int x0), (2, .ref ao)]) (by decide) (Nat.le_of_ble_eq_true rfl) rfl ?_
  intro p e s m args below meth c E hr hlk htab hZ hA
  refine k_aload_n E 2 rfl rfl dL_stateOf_0 ?_
  refine k_iconst E (v := 0) (by decide) dL_stateOf_1 ?_
  refine k_aload_n E 0 rfl rfl dL_stateOf_2 ?_
  refine k_iload_n E 1 rfl rfl dL_stateOf_3 ?_
  refine k_callWV [.int x0] E hA hM cf_X2_stateOf q_539 [oL k ao lf] [] (ws' := oL k ao lf :: W1) (by simp) (by simp) 1 he rfl rfl rfl ⟨show f + 1 ≤ 14 by omega, show 8 + (2 + 11) + lo ≤ 700 by omega⟩ (Nat.le_of_ble_eq_true rfl) ⟨show 0 + mc ≤ 4 by omega, show 0 + ms ≤ 24 by omega⟩ dL_stateOf_4 ?_
  refine k_i2l E (v := v.toInt64) rfl dL_stateOf_7 ?_
  refine k_last E (ws' := (oL k ao (vp_updL lf 0 v.toInt64) :: W1)) 0 3 rfl rfl (j := 0) rfl (by decide) (by decide) rfl dL_stateOf_8 ?_
  refine k_goto E (tgt := 15) (by decide) dL_stateOf_9 ?_
  refine k_iconst E (v := 0) (by decide) dL_stateOf_15 ?_
  exact kx_iret E hr hlk rfl rfl rfl (by omega) (by omega) dL_stateOf_16
set_option maxRecDepth 100000 in
theorem w_stateOf_i {f lo mc ms : Nat} (l : Launch) (D : va_G) (k : Nat → ClassId) (ao b : Nat) (lf : Nat → Int64) (x0 : Int32) (Wc : va_W) {fs : List Value} (hf : f ≤ 12) (hlo : lo ≤ 600) (hmc : mc ≤ 4) (hms : ms ≤ 24) (he : Wc[0]? = some (b, .inr (2, fs))) (hM : mX l yX2_stateOf cX2_stateOf 2 (some .char) f lo mc ms D (kTy k) [.ref b, .int x0] Wc (.inr "java/lang/IndexOutOfBoundsException")) : mH l yL_stateOf cL_stateOf 4 (some .int) [(0, 9, 12, 21)] 14 700 4 24 D (kTy k) [.ref b, .int x0, .ref ao] (oL k ao lf :: Wc) (.inl (some (.int 1), (oL k ao lf :: Wc))) := by
  refine mH.of (lv' := [(0, .ref b), (1, .int x0), (2, .ref ao)]) (by decide) (Nat.le_of_ble_eq_true rfl) rfl ?_
  intro p e s m args below meth c E hr hlk htab hZ hA
  refine k_aload_n E 2 rfl rfl dL_stateOf_0 ?_
  refine k_iconst E (v := 0) (by decide) dL_stateOf_1 ?_
  refine k_aload_n E 0 rfl rfl dL_stateOf_2 ?_
  refine k_iload_n E 1 rfl rfl dL_stateOf_3 ?_
  refine k_callXV [.int x0] E hA hZ hM cf_X2_stateOf q_539 [oL k ao lf] [] (by simp) 1 he rfl rfl rfl ⟨show f + 1 ≤ 14 by omega, show 8 + (2 + 11) + lo ≤ 700 by omega⟩ (Nat.le_of_ble_eq_true rfl) ⟨show 0 + mc ≤ 4 by omega, show 0 + ms ≤ 24 by omega⟩ dL_stateOf_4 (fun v W1 q => nomatch q) (fun X q => ?_)
  cases q
  refine k_xcatch E htab (tableOf []) (⟨0, 9, 12, 21⟩ : ExceptionTableEntry) (tableOf []) rfl (fun z hz => ?_) (by decide) (by decide) q_248 (by decide +kernel) (fun q => ?_)
  · exact nomatch hz
  refine k_astore_n (lv' := [(3, .ref q), (0, .ref b), (1, .int x0), (2, .ref ao)]) E rfl (by decide) rfl dL_stateOf_12 ?_
  refine k_iconst E (v := 1) (by decide) dL_stateOf_13 ?_
  exact kx_iret E hr hlk rfl rfl rfl (by omega) (by omega) dL_stateOf_14
set_option maxRecDepth 100000 in
theorem w_share {f lo : Nat} (l : Launch) (D : va_G) (k : Nat → ClassId) (ao b : Nat) (lf : Nat → Int64) (x0 : Int32) (x1 : Int32) (Wc : va_W) {fs : List Value} (hf : f ≤ 12) (hlo : lo ≤ 600) (he : Wc[0]? = some (b, .inr (2, fs))) (v : Int32) (hM : mR l yX2_share cX2_share 4 (some .int) f lo D (kTy k) [.ref b, .int x0, .int x1] Wc (some (.int v))) : mH l yL_share cL_share 5 (some .int) [(0, 10, 13, 21), (0, 10, 17, 53)] 14 700 4 24 D (kTy k) [.ref b, .int x0, .int x1, .ref ao] (oL k ao lf :: Wc) (.inl (some (.int 0), (oL k ao (vp_updL lf 0 v.toInt64) :: Wc))) := by
  refine mH.of (lv' := [(0, .ref b), (1, .int x0), (2, .int x1), (3, .ref ao)]) (by decide) (Nat.le_of_ble_eq_true rfl) rfl ?_
  intro p e s m args below meth c E hr hlk htab hZ hA
  refine k_aload_n E 3 rfl rfl dL_share_0 ?_
  refine k_iconst E (v := 0) (by decide) dL_share_1 ?_
  refine k_aload_n E 0 rfl rfl dL_share_2 ?_
  refine k_iload_n E 1 rfl rfl dL_share_3 ?_
  refine k_iload_n E 2 rfl rfl dL_share_4 ?_
  refine k_callRV [.int x0, .int x1] E hM cf_X2_share q_556 (List.range' 1 Wc.length) (by have q9 := fm_mid [oL k ao lf] Wc []; simpa using q9) 1 he rfl rfl rfl ⟨show f + 1 ≤ 14 by omega, show 8 + (4 + 11) + lo ≤ 700 by omega⟩ (Nat.le_of_ble_eq_true rfl) ⟨by decide, by decide⟩ dL_share_5 ?_
  refine k_i2l E (v := v.toInt64) rfl dL_share_8 ?_
  refine k_last E (ws' := (oL k ao (vp_updL lf 0 v.toInt64) :: Wc)) 0 3 rfl rfl (j := 0) rfl (by decide) (by decide) rfl dL_share_9 ?_
  refine k_goto E (tgt := 21) (by decide) dL_share_10 ?_
  refine k_iconst E (v := 0) (by decide) dL_share_21 ?_
  exact kx_iret E hr hlk rfl rfl rfl (by omega) (by omega) dL_share_22
set_option maxRecDepth 100000 in
theorem w_share_w {f lo mc ms : Nat} (l : Launch) (D : va_G) (k : Nat → ClassId) (ao b : Nat) (lf : Nat → Int64) (x0 : Int32) (x1 : Int32) (Wc : va_W) {fs : List Value} (hf : f ≤ 12) (hlo : lo ≤ 600) (hmc : mc ≤ 4) (hms : ms ≤ 24) (he : Wc[0]? = some (b, .inr (2, fs))) (v : Int32) (W1 : va_W) (hM : mW l yX2_share cX2_share 4 (some .int) f lo mc ms D (kTy k) [.ref b, .int x0, .int x1] Wc (some (.int v)) W1) : mH l yL_share cL_share 5 (some .int) [(0, 10, 13, 21), (0, 10, 17, 53)] 14 700 4 24 D (kTy k) [.ref b, .int x0, .int x1, .ref ao] (oL k ao lf :: Wc) (.inl (some (.int 0), (oL k ao (vp_updL lf 0 v.toInt64) :: W1))) := by
  refine mH.of (lv' := [(0, .ref b), (1, .int x0), (2, .int x1), (3, .ref ao)]) (by decide) (Nat.le_of_ble_eq_true rfl) rfl ?_
  intro p e s m args below meth c E hr hlk htab hZ hA
  refine k_aload_n E 3 rfl rfl dL_share_0 ?_
  refine k_iconst E (v := 0) (by decide) dL_share_1 ?_
  refine k_aload_n E 0 rfl rfl dL_share_2 ?_
  refine k_iload_n E 1 rfl rfl dL_share_3 ?_
  refine k_iload_n E 2 rfl rfl dL_share_4 ?_
  refine k_callWV [.int x0, .int x1] E hA hM cf_X2_share q_556 [oL k ao lf] [] (ws' := oL k ao lf :: W1) (by simp) (by simp) 1 he rfl rfl rfl ⟨show f + 1 ≤ 14 by omega, show 8 + (4 + 11) + lo ≤ 700 by omega⟩ (Nat.le_of_ble_eq_true rfl) ⟨show 0 + mc ≤ 4 by omega, show 0 + ms ≤ 24 by omega⟩ dL_share_5 ?_
  refine k_i2l E (v := v.toInt64) rfl dL_share_8 ?_
  refine k_last E (ws' := (oL k ao (vp_updL lf 0 v.toInt64) :: W1)) 0 3 rfl rfl (j := 0) rfl (by decide) (by decide) rfl dL_share_9 ?_
  refine k_goto E (tgt := 21) (by decide) dL_share_10 ?_
  refine k_iconst E (v := 0) (by decide) dL_share_21 ?_
  exact kx_iret E hr hlk rfl rfl rfl (by omega) (by omega) dL_share_22
set_option maxRecDepth 100000 in
theorem w_share_i {f lo mc ms : Nat} (l : Launch) (D : va_G) (k : Nat → ClassId) (ao b : Nat) (lf : Nat → Int64) (x0 : Int32) (x1 : Int32) (Wc : va_W) {fs : List Value} (hf : f ≤ 12) (hlo : lo ≤ 600) (hmc : mc ≤ 4) (hms : ms ≤ 24) (he : Wc[0]? = some (b, .inr (2, fs))) (hM : mX l yX2_share cX2_share 4 (some .int) f lo mc ms D (kTy k) [.ref b, .int x0, .int x1] Wc (.inr "java/lang/IndexOutOfBoundsException")) : mH l yL_share cL_share 5 (some .int) [(0, 10, 13, 21), (0, 10, 17, 53)] 14 700 4 24 D (kTy k) [.ref b, .int x0, .int x1, .ref ao] (oL k ao lf :: Wc) (.inl (some (.int 1), (oL k ao lf :: Wc))) := by
  refine mH.of (lv' := [(0, .ref b), (1, .int x0), (2, .int x1), (3, .ref ao)]) (by decide) (Nat.le_of_ble_eq_true rfl) rfl ?_
  intro p e s m args below meth c E hr hlk htab hZ hA
  refine k_aload_n E 3 rfl rfl dL_share_0 ?_
  refine k_iconst E (v := 0) (by decide) dL_share_1 ?_
  refine k_aload_n E 0 rfl rfl dL_share_2 ?_
  refine k_iload_n E 1 rfl rfl dL_share_3 ?_
  refine k_iload_n E 2 rfl rfl dL_share_4 ?_
  refine k_callXV [.int x0, .int x1] E hA hZ hM cf_X2_share q_556 [oL k ao lf] [] (by simp) 1 he rfl rfl rfl ⟨show f + 1 ≤ 14 by omega, show 8 + (4 + 11) + lo ≤ 700 by omega⟩ (Nat.le_of_ble_eq_true rfl) ⟨show 0 + mc ≤ 4 by omega, show 0 + ms ≤ 24 by omega⟩ dL_share_5 (fun v W1 q => nomatch q) (fun X q => ?_)
  cases q
  refine k_xcatch E htab (tableOf []) (⟨0, 10, 13, 21⟩ : ExceptionTableEntry) (tableOf [(0, 10, 17, 53)]) rfl (fun z hz => ?_) (by decide) (by decide) q_248 (by decide +kernel) (fun q => ?_)
  · exact nomatch hz
  refine k_astore (lv' := [(4, .ref q), (0, .ref b), (1, .int x0), (2, .int x1), (3, .ref ao)]) E (by decide) rfl dL_share_13 ?_
  refine k_iconst E (v := 1) (by decide) dL_share_15 ?_
  exact kx_iret E hr hlk rfl rfl rfl (by omega) (by omega) dL_share_16
set_option maxRecDepth 100000 in
theorem w_share_n {f lo mc ms : Nat} (l : Launch) (D : va_G) (k : Nat → ClassId) (ao b : Nat) (lf : Nat → Int64) (x0 : Int32) (x1 : Int32) (Wc : va_W) {fs : List Value} (hf : f ≤ 12) (hlo : lo ≤ 600) (hmc : mc ≤ 4) (hms : ms ≤ 24) (he : Wc[0]? = some (b, .inr (2, fs))) (hM : mX l yX2_share cX2_share 4 (some .int) f lo mc ms D (kTy k) [.ref b, .int x0, .int x1] Wc (.inr "java/util/NoSuchElementException")) : mH l yL_share cL_share 5 (some .int) [(0, 10, 13, 21), (0, 10, 17, 53)] 14 700 4 24 D (kTy k) [.ref b, .int x0, .int x1, .ref ao] (oL k ao lf :: Wc) (.inl (some (.int 2), (oL k ao lf :: Wc))) := by
  refine mH.of (lv' := [(0, .ref b), (1, .int x0), (2, .int x1), (3, .ref ao)]) (by decide) (Nat.le_of_ble_eq_true rfl) rfl ?_
  intro p e s m args below meth c E hr hlk htab hZ hA
  refine k_aload_n E 3 rfl rfl dL_share_0 ?_
  refine k_iconst E (v := 0) (by decide) dL_share_1 ?_
  refine k_aload_n E 0 rfl rfl dL_share_2 ?_
  refine k_iload_n E 1 rfl rfl dL_share_3 ?_
  refine k_iload_n E 2 rfl rfl dL_share_4 ?_
  refine k_callXV [.int x0, .int x1] E hA hZ hM cf_X2_share q_556 [oL k ao lf] [] (by simp) 1 he rfl rfl rfl ⟨show f + 1 ≤ 14 by omega, show 8 + (4 + 11) + lo ≤ 700 by omega⟩ (Nat.le_of_ble_eq_true rfl) ⟨show 0 + mc ≤ 4 by omega, show 0 + ms ≤ 24 by omega⟩ dL_share_5 (fun v W1 q => nomatch q) (fun X q => ?_)
  cases q
  refine k_xcatch E htab (tableOf [(0, 10, 13, 21)]) (⟨0, 10, 17, 53⟩ : ExceptionTableEntry) (tableOf []) rfl (fun z hz => ?_) (by decide) (by decide) q_432 (by decide +kernel) (fun q => ?_)
  · exact List.mem_cons.mp hz |>.elim (fun q => q ▸ Or.inr ⟨by decide, _, q_248, by decide +kernel⟩) (fun hz => nomatch hz)
  refine k_astore (lv' := [(4, .ref q), (0, .ref b), (1, .int x0), (2, .int x1), (3, .ref ao)]) E (by decide) rfl dL_share_17 ?_
  refine k_iconst E (v := 2) (by decide) dL_share_19 ?_
  exact kx_iret E hr hlk rfl rfl rfl (by omega) (by omega) dL_share_20
set_option maxRecDepth 100000 in
theorem w_worth {f lo : Nat} (l : Launch) (D : va_G) (k : Nat → ClassId) (ao b : Nat) (lf : Nat → Int64) (x0 : Int32) (Wc : va_W) {fs : List Value} (hf : f ≤ 12) (hlo : lo ≤ 600) (he : Wc[0]? = some (b, .inr (2, fs))) (v : Int32) (hM : mR l yX2_worth cX2_worth 2 (some .int) f lo D (kTy k) [.ref b, .int x0] Wc (some (.int v))) : mH l yL_worth cL_worth 4 (some .int) [(0, 9, 12, 21), (0, 9, 15, 45)] 14 700 4 24 D (kTy k) [.ref b, .int x0, .ref ao] (oL k ao lf :: Wc) (.inl (some (.int 0), (oL k ao (vp_updL lf 0 v.toInt64) :: Wc))) := by
  refine mH.of (lv' := [(0, .ref b), (1, .int x0), (2, .ref ao)]) (by decide) (Nat.le_of_ble_eq_true rfl) rfl ?_
  intro p e s m args below meth c E hr hlk htab hZ hA
  refine k_aload_n E 2 rfl rfl dL_worth_0 ?_
  refine k_iconst E (v := 0) (by decide) dL_worth_1 ?_
  refine k_aload_n E 0 rfl rfl dL_worth_2 ?_
  refine k_iload_n E 1 rfl rfl dL_worth_3 ?_
  refine k_callRV [.int x0] E hM cf_X2_worth q_568 (List.range' 1 Wc.length) (by have q9 := fm_mid [oL k ao lf] Wc []; simpa using q9) 1 he rfl rfl rfl ⟨show f + 1 ≤ 14 by omega, show 8 + (2 + 11) + lo ≤ 700 by omega⟩ (Nat.le_of_ble_eq_true rfl) ⟨by decide, by decide⟩ dL_worth_4 ?_
  refine k_i2l E (v := v.toInt64) rfl dL_worth_7 ?_
  refine k_last E (ws' := (oL k ao (vp_updL lf 0 v.toInt64) :: Wc)) 0 3 rfl rfl (j := 0) rfl (by decide) (by decide) rfl dL_worth_8 ?_
  refine k_goto E (tgt := 18) (by decide) dL_worth_9 ?_
  refine k_iconst E (v := 0) (by decide) dL_worth_18 ?_
  exact kx_iret E hr hlk rfl rfl rfl (by omega) (by omega) dL_worth_19
set_option maxRecDepth 100000 in
theorem w_worth_w {f lo mc ms : Nat} (l : Launch) (D : va_G) (k : Nat → ClassId) (ao b : Nat) (lf : Nat → Int64) (x0 : Int32) (Wc : va_W) {fs : List Value} (hf : f ≤ 12) (hlo : lo ≤ 600) (hmc : mc ≤ 4) (hms : ms ≤ 24) (he : Wc[0]? = some (b, .inr (2, fs))) (v : Int32) (W1 : va_W) (hM : mW l yX2_worth cX2_worth 2 (some .int) f lo mc ms D (kTy k) [.ref b, .int x0] Wc (some (.int v)) W1) : mH l yL_worth cL_worth 4 (some .int) [(0, 9, 12, 21), (0, 9, 15, 45)] 14 700 4 24 D (kTy k) [.ref b, .int x0, .ref ao] (oL k ao lf :: Wc) (.inl (some (.int 0), (oL k ao (vp_updL lf 0 v.toInt64) :: W1))) := by
  refine mH.of (lv' := [(0, .ref b), (1, .int x0), (2, .ref ao)]) (by decide) (Nat.le_of_ble_eq_true rfl) rfl ?_
  intro p e s m args below meth c E hr hlk htab hZ hA
  refine k_aload_n E 2 rfl rfl dL_worth_0 ?_
  refine k_iconst E (v := 0) (by decide) dL_worth_1 ?_
  refine k_aload_n E 0 rfl rfl dL_worth_2 ?_
  refine k_iload_n E 1 rfl rfl dL_worth_3 ?_
  refine k_callWV [.int x0] E hA hM cf_X2_worth q_568 [oL k ao lf] [] (ws' := oL k ao lf :: W1) (by simp) (by simp) 1 he rfl rfl rfl ⟨show f + 1 ≤ 14 by omega, show 8 + (2 + 11) + lo ≤ 700 by omega⟩ (Nat.le_of_ble_eq_true rfl) ⟨show 0 + mc ≤ 4 by omega, show 0 + ms ≤ 24 by omega⟩ dL_worth_4 ?_
  refine k_i2l E (v := v.toInt64) rfl dL_worth_7 ?_
  refine k_last E (ws' := (oL k ao (vp_updL lf 0 v.toInt64) :: W1)) 0 3 rfl rfl (j := 0) rfl (by decide) (by decide) rfl dL_worth_8 ?_
  refine k_goto E (tgt := 18) (by decide) dL_worth_9 ?_
  refine k_iconst E (v := 0) (by decide) dL_worth_18 ?_
  exact kx_iret E hr hlk rfl rfl rfl (by omega) (by omega) dL_worth_19
set_option maxRecDepth 100000 in
theorem w_worth_i {f lo mc ms : Nat} (l : Launch) (D : va_G) (k : Nat → ClassId) (ao b : Nat) (lf : Nat → Int64) (x0 : Int32) (Wc : va_W) {fs : List Value} (hf : f ≤ 12) (hlo : lo ≤ 600) (hmc : mc ≤ 4) (hms : ms ≤ 24) (he : Wc[0]? = some (b, .inr (2, fs))) (hM : mX l yX2_worth cX2_worth 2 (some .int) f lo mc ms D (kTy k) [.ref b, .int x0] Wc (.inr "java/lang/IndexOutOfBoundsException")) : mH l yL_worth cL_worth 4 (some .int) [(0, 9, 12, 21), (0, 9, 15, 45)] 14 700 4 24 D (kTy k) [.ref b, .int x0, .ref ao] (oL k ao lf :: Wc) (.inl (some (.int 1), (oL k ao lf :: Wc))) := by
  refine mH.of (lv' := [(0, .ref b), (1, .int x0), (2, .ref ao)]) (by decide) (Nat.le_of_ble_eq_true rfl) rfl ?_
  intro p e s m args below meth c E hr hlk htab hZ hA
  refine k_aload_n E 2 rfl rfl dL_worth_0 ?_
  refine k_iconst E (v := 0) (by decide) dL_worth_1 ?_
  refine k_aload_n E 0 rfl rfl dL_worth_2 ?_
  refine k_iload_n E 1 rfl rfl dL_worth_3 ?_
  refine k_callXV [.int x0] E hA hZ hM cf_X2_worth q_568 [oL k ao lf] [] (by simp) 1 he rfl rfl rfl ⟨show f + 1 ≤ 14 by omega, show 8 + (2 + 11) + lo ≤ 700 by omega⟩ (Nat.le_of_ble_eq_true rfl) ⟨show 0 + mc ≤ 4 by omega, show 0 + ms ≤ 24 by omega⟩ dL_worth_4 (fun v W1 q => nomatch q) (fun X q => ?_)
  cases q
  refine k_xcatch E htab (tableOf []) (⟨0, 9, 12, 21⟩ : ExceptionTableEntry) (tableOf [(0, 9, 15, 45)]) rfl (fun z hz => ?_) (by decide) (by decide) q_248 (by decide +kernel) (fun q => ?_)
  · exact nomatch hz
  refine k_astore_n (lv' := [(3, .ref q), (0, .ref b), (1, .int x0), (2, .ref ao)]) E rfl (by decide) rfl dL_worth_12 ?_
  refine k_iconst E (v := 1) (by decide) dL_worth_13 ?_
  exact kx_iret E hr hlk rfl rfl rfl (by omega) (by omega) dL_worth_14
set_option maxRecDepth 100000 in
theorem w_worth_u {f lo mc ms : Nat} (l : Launch) (D : va_G) (k : Nat → ClassId) (ao b : Nat) (lf : Nat → Int64) (x0 : Int32) (Wc : va_W) {fs : List Value} (hf : f ≤ 12) (hlo : lo ≤ 600) (hmc : mc ≤ 4) (hms : ms ≤ 24) (he : Wc[0]? = some (b, .inr (2, fs))) (hM : mX l yX2_worth cX2_worth 2 (some .int) f lo mc ms D (kTy k) [.ref b, .int x0] Wc (.inr "java/lang/UnsupportedOperationException")) : mH l yL_worth cL_worth 4 (some .int) [(0, 9, 12, 21), (0, 9, 15, 45)] 14 700 4 24 D (kTy k) [.ref b, .int x0, .ref ao] (oL k ao lf :: Wc) (.inl (some (.int 2), (oL k ao lf :: Wc))) := by
  refine mH.of (lv' := [(0, .ref b), (1, .int x0), (2, .ref ao)]) (by decide) (Nat.le_of_ble_eq_true rfl) rfl ?_
  intro p e s m args below meth c E hr hlk htab hZ hA
  refine k_aload_n E 2 rfl rfl dL_worth_0 ?_
  refine k_iconst E (v := 0) (by decide) dL_worth_1 ?_
  refine k_aload_n E 0 rfl rfl dL_worth_2 ?_
  refine k_iload_n E 1 rfl rfl dL_worth_3 ?_
  refine k_callXV [.int x0] E hA hZ hM cf_X2_worth q_568 [oL k ao lf] [] (by simp) 1 he rfl rfl rfl ⟨show f + 1 ≤ 14 by omega, show 8 + (2 + 11) + lo ≤ 700 by omega⟩ (Nat.le_of_ble_eq_true rfl) ⟨show 0 + mc ≤ 4 by omega, show 0 + ms ≤ 24 by omega⟩ dL_worth_4 (fun v W1 q => nomatch q) (fun X q => ?_)
  cases q
  refine k_xcatch E htab (tableOf [(0, 9, 12, 21)]) (⟨0, 9, 15, 45⟩ : ExceptionTableEntry) (tableOf []) rfl (fun z hz => ?_) (by decide) (by decide) q_382 (by decide +kernel) (fun q => ?_)
  · exact List.mem_cons.mp hz |>.elim (fun q => q ▸ Or.inr ⟨by decide, _, q_248, by decide +kernel⟩) (fun hz => nomatch hz)
  refine k_astore_n (lv' := [(3, .ref q), (0, .ref b), (1, .int x0), (2, .ref ao)]) E rfl (by decide) rfl dL_worth_15 ?_
  refine k_iconst E (v := 2) (by decide) dL_worth_16 ?_
  exact kx_iret E hr hlk rfl rfl rfl (by omega) (by omega) dL_worth_17
set_option maxRecDepth 100000 in
theorem w_loss {f lo : Nat} (l : Launch) (D : va_G) (k : Nat → ClassId) (ao b : Nat) (lf : Nat → Int64) (x0 : Int32) (Wc : va_W) {fs : List Value} (hf : f ≤ 12) (hlo : lo ≤ 600) (he : Wc[0]? = some (b, .inr (2, fs))) (v : Int32) (hM : mR l yX2_loss cX2_loss 2 (some .int) f lo D (kTy k) [.ref b, .int x0] Wc (some (.int v))) : mH l yL_loss cL_loss 4 (some .int) [(0, 9, 12, 21), (0, 9, 15, 45)] 14 700 4 24 D (kTy k) [.ref b, .int x0, .ref ao] (oL k ao lf :: Wc) (.inl (some (.int 0), (oL k ao (vp_updL lf 0 v.toInt64) :: Wc))) := by
  refine mH.of (lv' := [(0, .ref b), (1, .int x0), (2, .ref ao)]) (by decide) (Nat.le_of_ble_eq_true rfl) rfl ?_
  intro p e s m args below meth c E hr hlk htab hZ hA
  refine k_aload_n E 2 rfl rfl dL_loss_0 ?_
  refine k_iconst E (v := 0) (by decide) dL_loss_1 ?_
  refine k_aload_n E 0 rfl rfl dL_loss_2 ?_
  refine k_iload_n E 1 rfl rfl dL_loss_3 ?_
  refine k_callRV [.int x0] E hM cf_X2_loss q_585 (List.range' 1 Wc.length) (by have q9 := fm_mid [oL k ao lf] Wc []; simpa using q9) 1 he rfl rfl rfl ⟨show f + 1 ≤ 14 by omega, show 8 + (2 + 11) + lo ≤ 700 by omega⟩ (Nat.le_of_ble_eq_true rfl) ⟨by decide, by decide⟩ dL_loss_4 ?_
  refine k_i2l E (v := v.toInt64) rfl dL_loss_7 ?_
  refine k_last E (ws' := (oL k ao (vp_updL lf 0 v.toInt64) :: Wc)) 0 3 rfl rfl (j := 0) rfl (by decide) (by decide) rfl dL_loss_8 ?_
  refine k_goto E (tgt := 18) (by decide) dL_loss_9 ?_
  refine k_iconst E (v := 0) (by decide) dL_loss_18 ?_
  exact kx_iret E hr hlk rfl rfl rfl (by omega) (by omega) dL_loss_19
set_option maxRecDepth 100000 in
theorem w_loss_w {f lo mc ms : Nat} (l : Launch) (D : va_G) (k : Nat → ClassId) (ao b : Nat) (lf : Nat → Int64) (x0 : Int32) (Wc : va_W) {fs : List Value} (hf : f ≤ 12) (hlo : lo ≤ 600) (hmc : mc ≤ 4) (hms : ms ≤ 24) (he : Wc[0]? = some (b, .inr (2, fs))) (v : Int32) (W1 : va_W) (hM : mW l yX2_loss cX2_loss 2 (some .int) f lo mc ms D (kTy k) [.ref b, .int x0] Wc (some (.int v)) W1) : mH l yL_loss cL_loss 4 (some .int) [(0, 9, 12, 21), (0, 9, 15, 45)] 14 700 4 24 D (kTy k) [.ref b, .int x0, .ref ao] (oL k ao lf :: Wc) (.inl (some (.int 0), (oL k ao (vp_updL lf 0 v.toInt64) :: W1))) := by
  refine mH.of (lv' := [(0, .ref b), (1, .int x0), (2, .ref ao)]) (by decide) (Nat.le_of_ble_eq_true rfl) rfl ?_
  intro p e s m args below meth c E hr hlk htab hZ hA
  refine k_aload_n E 2 rfl rfl dL_loss_0 ?_
  refine k_iconst E (v := 0) (by decide) dL_loss_1 ?_
  refine k_aload_n E 0 rfl rfl dL_loss_2 ?_
  refine k_iload_n E 1 rfl rfl dL_loss_3 ?_
  refine k_callWV [.int x0] E hA hM cf_X2_loss q_585 [oL k ao lf] [] (ws' := oL k ao lf :: W1) (by simp) (by simp) 1 he rfl rfl rfl ⟨show f + 1 ≤ 14 by omega, show 8 + (2 + 11) + lo ≤ 700 by omega⟩ (Nat.le_of_ble_eq_true rfl) ⟨show 0 + mc ≤ 4 by omega, show 0 + ms ≤ 24 by omega⟩ dL_loss_4 ?_
  refine k_i2l E (v := v.toInt64) rfl dL_loss_7 ?_
  refine k_last E (ws' := (oL k ao (vp_updL lf 0 v.toInt64) :: W1)) 0 3 rfl rfl (j := 0) rfl (by decide) (by decide) rfl dL_loss_8 ?_
  refine k_goto E (tgt := 18) (by decide) dL_loss_9 ?_
  refine k_iconst E (v := 0) (by decide) dL_loss_18 ?_
  exact kx_iret E hr hlk rfl rfl rfl (by omega) (by omega) dL_loss_19
set_option maxRecDepth 100000 in
theorem w_loss_i {f lo mc ms : Nat} (l : Launch) (D : va_G) (k : Nat → ClassId) (ao b : Nat) (lf : Nat → Int64) (x0 : Int32) (Wc : va_W) {fs : List Value} (hf : f ≤ 12) (hlo : lo ≤ 600) (hmc : mc ≤ 4) (hms : ms ≤ 24) (he : Wc[0]? = some (b, .inr (2, fs))) (hM : mX l yX2_loss cX2_loss 2 (some .int) f lo mc ms D (kTy k) [.ref b, .int x0] Wc (.inr "java/lang/IndexOutOfBoundsException")) : mH l yL_loss cL_loss 4 (some .int) [(0, 9, 12, 21), (0, 9, 15, 45)] 14 700 4 24 D (kTy k) [.ref b, .int x0, .ref ao] (oL k ao lf :: Wc) (.inl (some (.int 1), (oL k ao lf :: Wc))) := by
  refine mH.of (lv' := [(0, .ref b), (1, .int x0), (2, .ref ao)]) (by decide) (Nat.le_of_ble_eq_true rfl) rfl ?_
  intro p e s m args below meth c E hr hlk htab hZ hA
  refine k_aload_n E 2 rfl rfl dL_loss_0 ?_
  refine k_iconst E (v := 0) (by decide) dL_loss_1 ?_
  refine k_aload_n E 0 rfl rfl dL_loss_2 ?_
  refine k_iload_n E 1 rfl rfl dL_loss_3 ?_
  refine k_callXV [.int x0] E hA hZ hM cf_X2_loss q_585 [oL k ao lf] [] (by simp) 1 he rfl rfl rfl ⟨show f + 1 ≤ 14 by omega, show 8 + (2 + 11) + lo ≤ 700 by omega⟩ (Nat.le_of_ble_eq_true rfl) ⟨show 0 + mc ≤ 4 by omega, show 0 + ms ≤ 24 by omega⟩ dL_loss_4 (fun v W1 q => nomatch q) (fun X q => ?_)
  cases q
  refine k_xcatch E htab (tableOf []) (⟨0, 9, 12, 21⟩ : ExceptionTableEntry) (tableOf [(0, 9, 15, 45)]) rfl (fun z hz => ?_) (by decide) (by decide) q_248 (by decide +kernel) (fun q => ?_)
  · exact nomatch hz
  refine k_astore_n (lv' := [(3, .ref q), (0, .ref b), (1, .int x0), (2, .ref ao)]) E rfl (by decide) rfl dL_loss_12 ?_
  refine k_iconst E (v := 1) (by decide) dL_loss_13 ?_
  exact kx_iret E hr hlk rfl rfl rfl (by omega) (by omega) dL_loss_14
set_option maxRecDepth 100000 in
theorem w_loss_u {f lo mc ms : Nat} (l : Launch) (D : va_G) (k : Nat → ClassId) (ao b : Nat) (lf : Nat → Int64) (x0 : Int32) (Wc : va_W) {fs : List Value} (hf : f ≤ 12) (hlo : lo ≤ 600) (hmc : mc ≤ 4) (hms : ms ≤ 24) (he : Wc[0]? = some (b, .inr (2, fs))) (hM : mX l yX2_loss cX2_loss 2 (some .int) f lo mc ms D (kTy k) [.ref b, .int x0] Wc (.inr "java/lang/UnsupportedOperationException")) : mH l yL_loss cL_loss 4 (some .int) [(0, 9, 12, 21), (0, 9, 15, 45)] 14 700 4 24 D (kTy k) [.ref b, .int x0, .ref ao] (oL k ao lf :: Wc) (.inl (some (.int 2), (oL k ao lf :: Wc))) := by
  refine mH.of (lv' := [(0, .ref b), (1, .int x0), (2, .ref ao)]) (by decide) (Nat.le_of_ble_eq_true rfl) rfl ?_
  intro p e s m args below meth c E hr hlk htab hZ hA
  refine k_aload_n E 2 rfl rfl dL_loss_0 ?_
  refine k_iconst E (v := 0) (by decide) dL_loss_1 ?_
  refine k_aload_n E 0 rfl rfl dL_loss_2 ?_
  refine k_iload_n E 1 rfl rfl dL_loss_3 ?_
  refine k_callXV [.int x0] E hA hZ hM cf_X2_loss q_585 [oL k ao lf] [] (by simp) 1 he rfl rfl rfl ⟨show f + 1 ≤ 14 by omega, show 8 + (2 + 11) + lo ≤ 700 by omega⟩ (Nat.le_of_ble_eq_true rfl) ⟨show 0 + mc ≤ 4 by omega, show 0 + ms ≤ 24 by omega⟩ dL_loss_4 (fun v W1 q => nomatch q) (fun X q => ?_)
  cases q
  refine k_xcatch E htab (tableOf [(0, 9, 12, 21)]) (⟨0, 9, 15, 45⟩ : ExceptionTableEntry) (tableOf []) rfl (fun z hz => ?_) (by decide) (by decide) q_382 (by decide +kernel) (fun q => ?_)
  · exact List.mem_cons.mp hz |>.elim (fun q => q ▸ Or.inr ⟨by decide, _, q_248, by decide +kernel⟩) (fun hz => nomatch hz)
  refine k_astore_n (lv' := [(3, .ref q), (0, .ref b), (1, .int x0), (2, .ref ao)]) E rfl (by decide) rfl dL_loss_15 ?_
  refine k_iconst E (v := 2) (by decide) dL_loss_16 ?_
  exact kx_iret E hr hlk rfl rfl rfl (by omega) (by omega) dL_loss_17
set_option maxRecDepth 100000 in
theorem w_pay {f lo : Nat} (l : Launch) (D : va_G) (k : Nat → ClassId) (ao b : Nat) (lf : Nat → Int64) (x0 : Int32) (Wc : va_W) {fs : List Value} (hf : f ≤ 12) (hlo : lo ≤ 600) (he : Wc[0]? = some (b, .inr (2, fs))) (v : Int64) (hM : mR l yX2_pay cX2_pay 5 (some .long) f lo D (kTy k) [.ref b, .int x0] Wc (some (.long v))) : mH l yL_pay cL_pay 4 (some .int) [(0, 8, 11, 21)] 14 700 4 24 D (kTy k) [.ref b, .int x0, .ref ao] (oL k ao lf :: Wc) (.inl (some (.int 0), (oL k ao (vp_updL lf 0 v) :: Wc))) := by
  refine mH.of (lv' := [(0, .ref b), (1, .int x0), (2, .ref ao)]) (by decide) (Nat.le_of_ble_eq_true rfl) rfl ?_
  intro p e s m args below meth c E hr hlk htab hZ hA
  refine k_aload_n E 2 rfl rfl dL_pay_0 ?_
  refine k_iconst E (v := 0) (by decide) dL_pay_1 ?_
  refine k_aload_n E 0 rfl rfl dL_pay_2 ?_
  refine k_iload_n E 1 rfl rfl dL_pay_3 ?_
  refine k_callRV [.int x0] E hM cf_X2_pay q_596 (List.range' 1 Wc.length) (by have q9 := fm_mid [oL k ao lf] Wc []; simpa using q9) 1 he rfl rfl rfl ⟨show f + 1 ≤ 14 by omega, show 8 + (5 + 11) + lo ≤ 700 by omega⟩ (Nat.le_of_ble_eq_true rfl) ⟨by decide, by decide⟩ dL_pay_4 ?_
  refine k_last E (ws' := (oL k ao (vp_updL lf 0 v) :: Wc)) 0 3 rfl rfl (j := 0) rfl (by decide) (by decide) rfl dL_pay_7 ?_
  refine k_goto E (tgt := 14) (by decide) dL_pay_8 ?_
  refine k_iconst E (v := 0) (by decide) dL_pay_14 ?_
  exact kx_iret E hr hlk rfl rfl rfl (by omega) (by omega) dL_pay_15
set_option maxRecDepth 100000 in
theorem w_pay_w {f lo mc ms : Nat} (l : Launch) (D : va_G) (k : Nat → ClassId) (ao b : Nat) (lf : Nat → Int64) (x0 : Int32) (Wc : va_W) {fs : List Value} (hf : f ≤ 12) (hlo : lo ≤ 600) (hmc : mc ≤ 4) (hms : ms ≤ 24) (he : Wc[0]? = some (b, .inr (2, fs))) (v : Int64) (W1 : va_W) (hM : mW l yX2_pay cX2_pay 5 (some .long) f lo mc ms D (kTy k) [.ref b, .int x0] Wc (some (.long v)) W1) : mH l yL_pay cL_pay 4 (some .int) [(0, 8, 11, 21)] 14 700 4 24 D (kTy k) [.ref b, .int x0, .ref ao] (oL k ao lf :: Wc) (.inl (some (.int 0), (oL k ao (vp_updL lf 0 v) :: W1))) := by
  refine mH.of (lv' := [(0, .ref b), (1, .int x0), (2, .ref ao)]) (by decide) (Nat.le_of_ble_eq_true rfl) rfl ?_
  intro p e s m args below meth c E hr hlk htab hZ hA
  refine k_aload_n E 2 rfl rfl dL_pay_0 ?_
  refine k_iconst E (v := 0) (by decide) dL_pay_1 ?_
  refine k_aload_n E 0 rfl rfl dL_pay_2 ?_
  refine k_iload_n E 1 rfl rfl dL_pay_3 ?_
  refine k_callWV [.int x0] E hA hM cf_X2_pay q_596 [oL k ao lf] [] (ws' := oL k ao lf :: W1) (by simp) (by simp) 1 he rfl rfl rfl ⟨show f + 1 ≤ 14 by omega, show 8 + (5 + 11) + lo ≤ 700 by omega⟩ (Nat.le_of_ble_eq_true rfl) ⟨show 0 + mc ≤ 4 by omega, show 0 + ms ≤ 24 by omega⟩ dL_pay_4 ?_
  refine k_last E (ws' := (oL k ao (vp_updL lf 0 v) :: W1)) 0 3 rfl rfl (j := 0) rfl (by decide) (by decide) rfl dL_pay_7 ?_
  refine k_goto E (tgt := 14) (by decide) dL_pay_8 ?_
  refine k_iconst E (v := 0) (by decide) dL_pay_14 ?_
  exact kx_iret E hr hlk rfl rfl rfl (by omega) (by omega) dL_pay_15
set_option maxRecDepth 100000 in
theorem w_pay_i {f lo mc ms : Nat} (l : Launch) (D : va_G) (k : Nat → ClassId) (ao b : Nat) (lf : Nat → Int64) (x0 : Int32) (Wc : va_W) {fs : List Value} (hf : f ≤ 12) (hlo : lo ≤ 600) (hmc : mc ≤ 4) (hms : ms ≤ 24) (he : Wc[0]? = some (b, .inr (2, fs))) (hM : mX l yX2_pay cX2_pay 5 (some .long) f lo mc ms D (kTy k) [.ref b, .int x0] Wc (.inr "java/lang/IndexOutOfBoundsException")) : mH l yL_pay cL_pay 4 (some .int) [(0, 8, 11, 21)] 14 700 4 24 D (kTy k) [.ref b, .int x0, .ref ao] (oL k ao lf :: Wc) (.inl (some (.int 1), (oL k ao lf :: Wc))) := by
  refine mH.of (lv' := [(0, .ref b), (1, .int x0), (2, .ref ao)]) (by decide) (Nat.le_of_ble_eq_true rfl) rfl ?_
  intro p e s m args below meth c E hr hlk htab hZ hA
  refine k_aload_n E 2 rfl rfl dL_pay_0 ?_
  refine k_iconst E (v := 0) (by decide) dL_pay_1 ?_
  refine k_aload_n E 0 rfl rfl dL_pay_2 ?_
  refine k_iload_n E 1 rfl rfl dL_pay_3 ?_
  refine k_callXV [.int x0] E hA hZ hM cf_X2_pay q_596 [oL k ao lf] [] (by simp) 1 he rfl rfl rfl ⟨show f + 1 ≤ 14 by omega, show 8 + (5 + 11) + lo ≤ 700 by omega⟩ (Nat.le_of_ble_eq_true rfl) ⟨show 0 + mc ≤ 4 by omega, show 0 + ms ≤ 24 by omega⟩ dL_pay_4 (fun v W1 q => nomatch q) (fun X q => ?_)
  cases q
  refine k_xcatch E htab (tableOf []) (⟨0, 8, 11, 21⟩ : ExceptionTableEntry) (tableOf []) rfl (fun z hz => ?_) (by decide) (by decide) q_248 (by decide +kernel) (fun q => ?_)
  · exact nomatch hz
  refine k_astore_n (lv' := [(3, .ref q), (0, .ref b), (1, .int x0), (2, .ref ao)]) E rfl (by decide) rfl dL_pay_11 ?_
  refine k_iconst E (v := 1) (by decide) dL_pay_12 ?_
  exact kx_iret E hr hlk rfl rfl rfl (by omega) (by omega) dL_pay_13
set_option maxRecDepth 100000 in
theorem w_blame {f lo : Nat} (l : Launch) (D : va_G) (k : Nat → ClassId) (ao b : Nat) (lf : Nat → Int64) (x0 : Int32) (Wc : va_W) {fs : List Value} (hf : f ≤ 12) (hlo : lo ≤ 600) (he : Wc[0]? = some (b, .inr (2, fs))) (v : Int64) (hM : mR l yX2_blame cX2_blame 5 (some .long) f lo D (kTy k) [.ref b, .int x0] Wc (some (.long v))) : mH l yL_blame cL_blame 4 (some .int) [(0, 8, 11, 21)] 14 700 4 24 D (kTy k) [.ref b, .int x0, .ref ao] (oL k ao lf :: Wc) (.inl (some (.int 0), (oL k ao (vp_updL lf 0 v) :: Wc))) := by
  refine mH.of (lv' := [(0, .ref b), (1, .int x0), (2, .ref ao)]) (by decide) (Nat.le_of_ble_eq_true rfl) rfl ?_
  intro p e s m args below meth c E hr hlk htab hZ hA
  refine k_aload_n E 2 rfl rfl dL_blame_0 ?_
  refine k_iconst E (v := 0) (by decide) dL_blame_1 ?_
  refine k_aload_n E 0 rfl rfl dL_blame_2 ?_
  refine k_iload_n E 1 rfl rfl dL_blame_3 ?_
  refine k_callRV [.int x0] E hM cf_X2_blame q_607 (List.range' 1 Wc.length) (by have q9 := fm_mid [oL k ao lf] Wc []; simpa using q9) 1 he rfl rfl rfl ⟨show f + 1 ≤ 14 by omega, show 8 + (5 + 11) + lo ≤ 700 by omega⟩ (Nat.le_of_ble_eq_true rfl) ⟨by decide, by decide⟩ dL_blame_4 ?_
  refine k_last E (ws' := (oL k ao (vp_updL lf 0 v) :: Wc)) 0 3 rfl rfl (j := 0) rfl (by decide) (by decide) rfl dL_blame_7 ?_
  refine k_goto E (tgt := 14) (by decide) dL_blame_8 ?_
  refine k_iconst E (v := 0) (by decide) dL_blame_14 ?_
  exact kx_iret E hr hlk rfl rfl rfl (by omega) (by omega) dL_blame_15
set_option maxRecDepth 100000 in
theorem w_blame_w {f lo mc ms : Nat} (l : Launch) (D : va_G) (k : Nat → ClassId) (ao b : Nat) (lf : Nat → Int64) (x0 : Int32) (Wc : va_W) {fs : List Value} (hf : f ≤ 12) (hlo : lo ≤ 600) (hmc : mc ≤ 4) (hms : ms ≤ 24) (he : Wc[0]? = some (b, .inr (2, fs))) (v : Int64) (W1 : va_W) (hM : mW l yX2_blame cX2_blame 5 (some .long) f lo mc ms D (kTy k) [.ref b, .int x0] Wc (some (.long v)) W1) : mH l yL_blame cL_blame 4 (some .int) [(0, 8, 11, 21)] 14 700 4 24 D (kTy k) [.ref b, .int x0, .ref ao] (oL k ao lf :: Wc) (.inl (some (.int 0), (oL k ao (vp_updL lf 0 v) :: W1))) := by
  refine mH.of (lv' := [(0, .ref b), (1, .int x0), (2, .ref ao)]) (by decide) (Nat.le_of_ble_eq_true rfl) rfl ?_
  intro p e s m args below meth c E hr hlk htab hZ hA
  refine k_aload_n E 2 rfl rfl dL_blame_0 ?_
  refine k_iconst E (v := 0) (by decide) dL_blame_1 ?_
  refine k_aload_n E 0 rfl rfl dL_blame_2 ?_
  refine k_iload_n E 1 rfl rfl dL_blame_3 ?_
  refine k_callWV [.int x0] E hA hM cf_X2_blame q_607 [oL k ao lf] [] (ws' := oL k ao lf :: W1) (by simp) (by simp) 1 he rfl rfl rfl ⟨show f + 1 ≤ 14 by omega, show 8 + (5 + 11) + lo ≤ 700 by omega⟩ (Nat.le_of_ble_eq_true rfl) ⟨show 0 + mc ≤ 4 by omega, show 0 + ms ≤ 24 by omega⟩ dL_blame_4 ?_
  refine k_last E (ws' := (oL k ao (vp_updL lf 0 v) :: W1)) 0 3 rfl rfl (j := 0) rfl (by decide) (by decide) rfl dL_blame_7 ?_
  refine k_goto E (tgt := 14) (by decide) dL_blame_8 ?_
  refine k_iconst E (v := 0) (by decide) dL_blame_14 ?_
  exact kx_iret E hr hlk rfl rfl rfl (by omega) (by omega) dL_blame_15
set_option maxRecDepth 100000 in
theorem w_blame_i {f lo mc ms : Nat} (l : Launch) (D : va_G) (k : Nat → ClassId) (ao b : Nat) (lf : Nat → Int64) (x0 : Int32) (Wc : va_W) {fs : List Value} (hf : f ≤ 12) (hlo : lo ≤ 600) (hmc : mc ≤ 4) (hms : ms ≤ 24) (he : Wc[0]? = some (b, .inr (2, fs))) (hM : mX l yX2_blame cX2_blame 5 (some .long) f lo mc ms D (kTy k) [.ref b, .int x0] Wc (.inr "java/lang/IndexOutOfBoundsException")) : mH l yL_blame cL_blame 4 (some .int) [(0, 8, 11, 21)] 14 700 4 24 D (kTy k) [.ref b, .int x0, .ref ao] (oL k ao lf :: Wc) (.inl (some (.int 1), (oL k ao lf :: Wc))) := by
  refine mH.of (lv' := [(0, .ref b), (1, .int x0), (2, .ref ao)]) (by decide) (Nat.le_of_ble_eq_true rfl) rfl ?_
  intro p e s m args below meth c E hr hlk htab hZ hA
  refine k_aload_n E 2 rfl rfl dL_blame_0 ?_
  refine k_iconst E (v := 0) (by decide) dL_blame_1 ?_
  refine k_aload_n E 0 rfl rfl dL_blame_2 ?_
  refine k_iload_n E 1 rfl rfl dL_blame_3 ?_
  refine k_callXV [.int x0] E hA hZ hM cf_X2_blame q_607 [oL k ao lf] [] (by simp) 1 he rfl rfl rfl ⟨show f + 1 ≤ 14 by omega, show 8 + (5 + 11) + lo ≤ 700 by omega⟩ (Nat.le_of_ble_eq_true rfl) ⟨show 0 + mc ≤ 4 by omega, show 0 + ms ≤ 24 by omega⟩ dL_blame_4 (fun v W1 q => nomatch q) (fun X q => ?_)
  cases q
  refine k_xcatch E htab (tableOf []) (⟨0, 8, 11, 21⟩ : ExceptionTableEntry) (tableOf []) rfl (fun z hz => ?_) (by decide) (by decide) q_248 (by decide +kernel) (fun q => ?_)
  · exact nomatch hz
  refine k_astore_n (lv' := [(3, .ref q), (0, .ref b), (1, .int x0), (2, .ref ao)]) E rfl (by decide) rfl dL_blame_11 ?_
  refine k_iconst E (v := 1) (by decide) dL_blame_12 ?_
  exact kx_iret E hr hlk rfl rfl rfl (by omega) (by omega) dL_blame_13
set_option maxRecDepth 100000 in
theorem w_balanceBySamples {f lo : Nat} (l : Launch) (D : va_G) (k : Nat → ClassId) (ao b : Nat) (lf : Nat → Int64) (x0 : Int32) (Wc : va_W) {fs : List Value} (hf : f ≤ 12) (hlo : lo ≤ 600) (he : Wc[0]? = some (b, .inr (2, fs))) (v : Int64) (hM : mR l yX2_balanceBySamples cX2_balanceBySamples 2 (some .long) f lo D (kTy k) [.ref b, .int x0] Wc (some (.long v))) : mH l yL_balanceBySamples cL_balanceBySamples 4 (some .int) [(0, 8, 11, 21)] 14 700 4 24 D (kTy k) [.ref b, .int x0, .ref ao] (oL k ao lf :: Wc) (.inl (some (.int 0), (oL k ao (vp_updL lf 0 v) :: Wc))) := by
  refine mH.of (lv' := [(0, .ref b), (1, .int x0), (2, .ref ao)]) (by decide) (Nat.le_of_ble_eq_true rfl) rfl ?_
  intro p e s m args below meth c E hr hlk htab hZ hA
  refine k_aload_n E 2 rfl rfl dL_balanceBySamples_0 ?_
  refine k_iconst E (v := 0) (by decide) dL_balanceBySamples_1 ?_
  refine k_aload_n E 0 rfl rfl dL_balanceBySamples_2 ?_
  refine k_iload_n E 1 rfl rfl dL_balanceBySamples_3 ?_
  refine k_callRV [.int x0] E hM cf_X2_balanceBySamples q_618 (List.range' 1 Wc.length) (by have q9 := fm_mid [oL k ao lf] Wc []; simpa using q9) 1 he rfl rfl rfl ⟨show f + 1 ≤ 14 by omega, show 8 + (2 + 11) + lo ≤ 700 by omega⟩ (Nat.le_of_ble_eq_true rfl) ⟨by decide, by decide⟩ dL_balanceBySamples_4 ?_
  refine k_last E (ws' := (oL k ao (vp_updL lf 0 v) :: Wc)) 0 3 rfl rfl (j := 0) rfl (by decide) (by decide) rfl dL_balanceBySamples_7 ?_
  refine k_goto E (tgt := 14) (by decide) dL_balanceBySamples_8 ?_
  refine k_iconst E (v := 0) (by decide) dL_balanceBySamples_14 ?_
  exact kx_iret E hr hlk rfl rfl rfl (by omega) (by omega) dL_balanceBySamples_15
set_option maxRecDepth 100000 in
theorem w_balanceBySamples_w {f lo mc ms : Nat} (l : Launch) (D : va_G) (k : Nat → ClassId) (ao b : Nat) (lf : Nat → Int64) (x0 : Int32) (Wc : va_W) {fs : List Value} (hf : f ≤ 12) (hlo : lo ≤ 600) (hmc : mc ≤ 4) (hms : ms ≤ 24) (he : Wc[0]? = some (b, .inr (2, fs))) (v : Int64) (W1 : va_W) (hM : mW l yX2_balanceBySamples cX2_balanceBySamples 2 (some .long) f lo mc ms D (kTy k) [.ref b, .int x0] Wc (some (.long v)) W1) : mH l yL_balanceBySamples cL_balanceBySamples 4 (some .int) [(0, 8, 11, 21)] 14 700 4 24 D (kTy k) [.ref b, .int x0, .ref ao] (oL k ao lf :: Wc) (.inl (some (.int 0), (oL k ao (vp_updL lf 0 v) :: W1))) := by
  refine mH.of (lv' := [(0, .ref b), (1, .int x0), (2, .ref ao)]) (by decide) (Nat.le_of_ble_eq_true rfl) rfl ?_
  intro p e s m args below meth c E hr hlk htab hZ hA
  refine k_aload_n E 2 rfl rfl dL_balanceBySamples_0 ?_
  refine k_iconst E (v := 0) (by decide) dL_balanceBySamples_1 ?_
  refine k_aload_n E 0 rfl rfl dL_balanceBySamples_2 ?_
  refine k_iload_n E 1 rfl rfl dL_balanceBySamples_3 ?_
  refine k_callWV [.int x0] E hA hM cf_X2_balanceBySamples q_618 [oL k ao lf] [] (ws' := oL k ao lf :: W1) (by simp) (by simp) 1 he rfl rfl rfl ⟨show f + 1 ≤ 14 by omega, show 8 + (2 + 11) + lo ≤ 700 by omega⟩ (Nat.le_of_ble_eq_true rfl) ⟨show 0 + mc ≤ 4 by omega, show 0 + ms ≤ 24 by omega⟩ dL_balanceBySamples_4 ?_
  refine k_last E (ws' := (oL k ao (vp_updL lf 0 v) :: W1)) 0 3 rfl rfl (j := 0) rfl (by decide) (by decide) rfl dL_balanceBySamples_7 ?_
  refine k_goto E (tgt := 14) (by decide) dL_balanceBySamples_8 ?_
  refine k_iconst E (v := 0) (by decide) dL_balanceBySamples_14 ?_
  exact kx_iret E hr hlk rfl rfl rfl (by omega) (by omega) dL_balanceBySamples_15
set_option maxRecDepth 100000 in
theorem w_balanceBySamples_i {f lo mc ms : Nat} (l : Launch) (D : va_G) (k : Nat → ClassId) (ao b : Nat) (lf : Nat → Int64) (x0 : Int32) (Wc : va_W) {fs : List Value} (hf : f ≤ 12) (hlo : lo ≤ 600) (hmc : mc ≤ 4) (hms : ms ≤ 24) (he : Wc[0]? = some (b, .inr (2, fs))) (hM : mX l yX2_balanceBySamples cX2_balanceBySamples 2 (some .long) f lo mc ms D (kTy k) [.ref b, .int x0] Wc (.inr "java/lang/IndexOutOfBoundsException")) : mH l yL_balanceBySamples cL_balanceBySamples 4 (some .int) [(0, 8, 11, 21)] 14 700 4 24 D (kTy k) [.ref b, .int x0, .ref ao] (oL k ao lf :: Wc) (.inl (some (.int 1), (oL k ao lf :: Wc))) := by
  refine mH.of (lv' := [(0, .ref b), (1, .int x0), (2, .ref ao)]) (by decide) (Nat.le_of_ble_eq_true rfl) rfl ?_
  intro p e s m args below meth c E hr hlk htab hZ hA
  refine k_aload_n E 2 rfl rfl dL_balanceBySamples_0 ?_
  refine k_iconst E (v := 0) (by decide) dL_balanceBySamples_1 ?_
  refine k_aload_n E 0 rfl rfl dL_balanceBySamples_2 ?_
  refine k_iload_n E 1 rfl rfl dL_balanceBySamples_3 ?_
  refine k_callXV [.int x0] E hA hZ hM cf_X2_balanceBySamples q_618 [oL k ao lf] [] (by simp) 1 he rfl rfl rfl ⟨show f + 1 ≤ 14 by omega, show 8 + (2 + 11) + lo ≤ 700 by omega⟩ (Nat.le_of_ble_eq_true rfl) ⟨show 0 + mc ≤ 4 by omega, show 0 + ms ≤ 24 by omega⟩ dL_balanceBySamples_4 (fun v W1 q => nomatch q) (fun X q => ?_)
  cases q
  refine k_xcatch E htab (tableOf []) (⟨0, 8, 11, 21⟩ : ExceptionTableEntry) (tableOf []) rfl (fun z hz => ?_) (by decide) (by decide) q_248 (by decide +kernel) (fun q => ?_)
  · exact nomatch hz
  refine k_astore_n (lv' := [(3, .ref q), (0, .ref b), (1, .int x0), (2, .ref ao)]) E rfl (by decide) rfl dL_balanceBySamples_11 ?_
  refine k_iconst E (v := 1) (by decide) dL_balanceBySamples_12 ?_
  exact kx_iret E hr hlk rfl rfl rfl (by omega) (by omega) dL_balanceBySamples_13
set_option maxRecDepth 100000 in
theorem w_wayOf {f lo : Nat} (l : Launch) (D : va_G) (k : Nat → ClassId) (ao b : Nat) (lf : Nat → Int64) (x0 : Int32) (Wc : va_W) {fs : List Value} (hf : f ≤ 12) (hlo : lo ≤ 600) (he : Wc[0]? = some (b, .inr (2, fs))) (v : Int32) (hM : mR l yX2_wayOf cX2_wayOf 2 (some .char) f lo D (kTy k) [.ref b, .int x0] Wc (some (.int v))) : mH l yL_wayOf cL_wayOf 4 (some .int) [(0, 9, 12, 21)] 14 700 4 24 D (kTy k) [.ref b, .int x0, .ref ao] (oL k ao lf :: Wc) (.inl (some (.int 0), (oL k ao (vp_updL lf 0 v.toInt64) :: Wc))) := by
  refine mH.of (lv' := [(0, .ref b), (1, .int x0), (2, .ref ao)]) (by decide) (Nat.le_of_ble_eq_true rfl) rfl ?_
  intro p e s m args below meth c E hr hlk htab hZ hA
  refine k_aload_n E 2 rfl rfl dL_wayOf_0 ?_
  refine k_iconst E (v := 0) (by decide) dL_wayOf_1 ?_
  refine k_aload_n E 0 rfl rfl dL_wayOf_2 ?_
  refine k_iload_n E 1 rfl rfl dL_wayOf_3 ?_
  refine k_callRV [.int x0] E hM cf_X2_wayOf q_629 (List.range' 1 Wc.length) (by have q9 := fm_mid [oL k ao lf] Wc []; simpa using q9) 1 he rfl rfl rfl ⟨show f + 1 ≤ 14 by omega, show 8 + (2 + 11) + lo ≤ 700 by omega⟩ (Nat.le_of_ble_eq_true rfl) ⟨by decide, by decide⟩ dL_wayOf_4 ?_
  refine k_i2l E (v := v.toInt64) rfl dL_wayOf_7 ?_
  refine k_last E (ws' := (oL k ao (vp_updL lf 0 v.toInt64) :: Wc)) 0 3 rfl rfl (j := 0) rfl (by decide) (by decide) rfl dL_wayOf_8 ?_
  refine k_goto E (tgt := 15) (by decide) dL_wayOf_9 ?_
  refine k_iconst E (v := 0) (by decide) dL_wayOf_15 ?_
  exact kx_iret E hr hlk rfl rfl rfl (by omega) (by omega) dL_wayOf_16
set_option maxRecDepth 100000 in
theorem w_wayOf_w {f lo mc ms : Nat} (l : Launch) (D : va_G) (k : Nat → ClassId) (ao b : Nat) (lf : Nat → Int64) (x0 : Int32) (Wc : va_W) {fs : List Value} (hf : f ≤ 12) (hlo : lo ≤ 600) (hmc : mc ≤ 4) (hms : ms ≤ 24) (he : Wc[0]? = some (b, .inr (2, fs))) (v : Int32) (W1 : va_W) (hM : mW l yX2_wayOf cX2_wayOf 2 (some .char) f lo mc ms D (kTy k) [.ref b, .int x0] Wc (some (.int v)) W1) : mH l yL_wayOf cL_wayOf 4 (some .int) [(0, 9, 12, 21)] 14 700 4 24 D (kTy k) [.ref b, .int x0, .ref ao] (oL k ao lf :: Wc) (.inl (some (.int 0), (oL k ao (vp_updL lf 0 v.toInt64) :: W1))) := by
  refine mH.of (lv' := [(0, .ref b), (1, .int x0), (2, .ref ao)]) (by decide) (Nat.le_of_ble_eq_true rfl) rfl ?_
  intro p e s m args below meth c E hr hlk htab hZ hA
  refine k_aload_n E 2 rfl rfl dL_wayOf_0 ?_
  refine k_iconst E (v := 0) (by decide) dL_wayOf_1 ?_
  refine k_aload_n E 0 rfl rfl dL_wayOf_2 ?_
  refine k_iload_n E 1 rfl rfl dL_wayOf_3 ?_
  refine k_callWV [.int x0] E hA hM cf_X2_wayOf q_629 [oL k ao lf] [] (ws' := oL k ao lf :: W1) (by simp) (by simp) 1 he rfl rfl rfl ⟨show f + 1 ≤ 14 by omega, show 8 + (2 + 11) + lo ≤ 700 by omega⟩ (Nat.le_of_ble_eq_true rfl) ⟨show 0 + mc ≤ 4 by omega, show 0 + ms ≤ 24 by omega⟩ dL_wayOf_4 ?_
  refine k_i2l E (v := v.toInt64) rfl dL_wayOf_7 ?_
  refine k_last E (ws' := (oL k ao (vp_updL lf 0 v.toInt64) :: W1)) 0 3 rfl rfl (j := 0) rfl (by decide) (by decide) rfl dL_wayOf_8 ?_
  refine k_goto E (tgt := 15) (by decide) dL_wayOf_9 ?_
  refine k_iconst E (v := 0) (by decide) dL_wayOf_15 ?_
  exact kx_iret E hr hlk rfl rfl rfl (by omega) (by omega) dL_wayOf_16
set_option maxRecDepth 100000 in
theorem w_wayOf_i {f lo mc ms : Nat} (l : Launch) (D : va_G) (k : Nat → ClassId) (ao b : Nat) (lf : Nat → Int64) (x0 : Int32) (Wc : va_W) {fs : List Value} (hf : f ≤ 12) (hlo : lo ≤ 600) (hmc : mc ≤ 4) (hms : ms ≤ 24) (he : Wc[0]? = some (b, .inr (2, fs))) (hM : mX l yX2_wayOf cX2_wayOf 2 (some .char) f lo mc ms D (kTy k) [.ref b, .int x0] Wc (.inr "java/lang/IndexOutOfBoundsException")) : mH l yL_wayOf cL_wayOf 4 (some .int) [(0, 9, 12, 21)] 14 700 4 24 D (kTy k) [.ref b, .int x0, .ref ao] (oL k ao lf :: Wc) (.inl (some (.int 1), (oL k ao lf :: Wc))) := by
  refine mH.of (lv' := [(0, .ref b), (1, .int x0), (2, .ref ao)]) (by decide) (Nat.le_of_ble_eq_true rfl) rfl ?_
  intro p e s m args below meth c E hr hlk htab hZ hA
  refine k_aload_n E 2 rfl rfl dL_wayOf_0 ?_
  refine k_iconst E (v := 0) (by decide) dL_wayOf_1 ?_
  refine k_aload_n E 0 rfl rfl dL_wayOf_2 ?_
  refine k_iload_n E 1 rfl rfl dL_wayOf_3 ?_
  refine k_callXV [.int x0] E hA hZ hM cf_X2_wayOf q_629 [oL k ao lf] [] (by simp) 1 he rfl rfl rfl ⟨show f + 1 ≤ 14 by omega, show 8 + (2 + 11) + lo ≤ 700 by omega⟩ (Nat.le_of_ble_eq_true rfl) ⟨show 0 + mc ≤ 4 by omega, show 0 + ms ≤ 24 by omega⟩ dL_wayOf_4 (fun v W1 q => nomatch q) (fun X q => ?_)
  cases q
  refine k_xcatch E htab (tableOf []) (⟨0, 9, 12, 21⟩ : ExceptionTableEntry) (tableOf []) rfl (fun z hz => ?_) (by decide) (by decide) q_248 (by decide +kernel) (fun q => ?_)
  · exact nomatch hz
  refine k_astore_n (lv' := [(3, .ref q), (0, .ref b), (1, .int x0), (2, .ref ao)]) E rfl (by decide) rfl dL_wayOf_12 ?_
  refine k_iconst E (v := 1) (by decide) dL_wayOf_13 ?_
  exact kx_iret E hr hlk rfl rfl rfl (by omega) (by omega) dL_wayOf_14
set_option maxRecDepth 100000 in
theorem w_spoiltShare {f lo : Nat} (l : Launch) (D : va_G) (k : Nat → ClassId) (ao b : Nat) (lf : Nat → UInt64) (Wc : va_W) {fs : List Value} (hf : f ≤ 12) (hlo : lo ≤ 600) (he : Wc[0]? = some (b, .inr (2, fs))) (v : UInt32) (hnn : vf_n64 (FP.f2d v)) (hM : mR l yX2_spoiltShare cX2_spoiltShare 4 (some .float) f lo D (kTy k) [.ref b] Wc (some (.float v))) : mH l yL_spoiltShare cL_spoiltShare 3 (some .int) [(0, 8, 11, 101)] 14 700 4 24 D (kTy k) [.ref b, .ref ao] (Wc ++ [oD k ao lf]) (.inl (some (.int 0), (Wc ++ [oD k ao (vf_upd lf 0 (FP.f2d v))]))) := by
  refine mH.of (lv' := [(0, .ref b), (1, .ref ao)]) (by decide) (Nat.le_of_ble_eq_true rfl) rfl ?_
  intro p e s m args below meth c E hr hlk htab hZ hA
  refine k_aload_n E 1 rfl rfl dL_spoiltShare_0 ?_
  refine k_iconst E (v := 0) (by decide) dL_spoiltShare_1 ?_
  refine k_aload_n E 0 rfl rfl dL_spoiltShare_2 ?_
  refine k_callRV [] E hM cf_X2_spoiltShare q_650 (List.range' 0 Wc.length) (by have q9 := fm_mid [] Wc [oD k ao lf]; simpa using q9) 0 (he_l he) rfl rfl rfl ⟨show f + 1 ≤ 14 by omega, show 8 + (4 + 11) + lo ≤ 700 by omega⟩ (Nat.le_of_ble_eq_true rfl) ⟨by decide, by decide⟩ dL_spoiltShare_3 ?_
  refine k_f2d E hnn dL_spoiltShare_6 ?_
  refine k_dast E (ws' := (Wc ++ [oD k ao (vf_upd lf 0 (FP.f2d v))])) (n := 1) (f := lf) Wc.length 4 (by simp) rfl (j := 0) rfl (by decide) (by decide) (by simp) dL_spoiltShare_7 ?_
  refine k_goto E (tgt := 14) (by decide) dL_spoiltShare_8 ?_
  refine k_iconst E (v := 0) (by decide) dL_spoiltShare_14 ?_
  exact kx_iret E hr hlk rfl rfl rfl (by omega) (by omega) dL_spoiltShare_15
set_option maxRecDepth 100000 in
theorem w_spoiltShare_r {f lo mc ms : Nat} (l : Launch) (D : va_G) (k : Nat → ClassId) (ao b : Nat) (lf : Nat → UInt64) (Wc : va_W) {fs : List Value} (hf : f ≤ 12) (hlo : lo ≤ 600) (hmc : mc ≤ 4) (hms : ms ≤ 24) (he : Wc[0]? = some (b, .inr (2, fs))) (hM : mX l yX2_spoiltShare cX2_spoiltShare 4 (some .float) f lo mc ms D (kTy k) [.ref b] Wc (.inr "java/lang/ArithmeticException")) : mH l yL_spoiltShare cL_spoiltShare 3 (some .int) [(0, 8, 11, 101)] 14 700 4 24 D (kTy k) [.ref b, .ref ao] (Wc ++ [oD k ao lf]) (.inl (some (.int 1), (Wc ++ [oD k ao lf]))) := by
  refine mH.of (lv' := [(0, .ref b), (1, .ref ao)]) (by decide) (Nat.le_of_ble_eq_true rfl) rfl ?_
  intro p e s m args below meth c E hr hlk htab hZ hA
  refine k_aload_n E 1 rfl rfl dL_spoiltShare_0 ?_
  refine k_iconst E (v := 0) (by decide) dL_spoiltShare_1 ?_
  refine k_aload_n E 0 rfl rfl dL_spoiltShare_2 ?_
  refine k_callXV [] E hA hZ hM cf_X2_spoiltShare q_650 [] [oD k ao lf] (by simp) 0 (he_l he) rfl rfl rfl ⟨show f + 1 ≤ 14 by omega, show 8 + (4 + 11) + lo ≤ 700 by omega⟩ (Nat.le_of_ble_eq_true rfl) ⟨show 0 + mc ≤ 4 by omega, show 0 + ms ≤ 24 by omega⟩ dL_spoiltShare_3 (fun v W1 q => nomatch q) (fun X q => ?_)
  cases q
  refine k_xcatch E htab (tableOf []) (⟨0, 8, 11, 101⟩ : ExceptionTableEntry) (tableOf []) rfl (fun z hz => ?_) (by decide) (by decide) q_636 (by decide +kernel) (fun q => ?_)
  · exact nomatch hz
  refine k_astore_n (lv' := [(2, .ref q), (0, .ref b), (1, .ref ao)]) E rfl (by decide) rfl dL_spoiltShare_11 ?_
  refine k_iconst E (v := 1) (by decide) dL_spoiltShare_12 ?_
  exact kx_iret E hr hlk rfl rfl rfl (by omega) (by omega) dL_spoiltShare_13
set_option maxRecDepth 100000 in
theorem w_meanPay {f lo : Nat} (l : Launch) (D : va_G) (k : Nat → ClassId) (ao b : Nat) (lf : Nat → UInt64) (Wc : va_W) {fs : List Value} (hf : f ≤ 12) (hlo : lo ≤ 600) (he : Wc[0]? = some (b, .inr (2, fs))) (v : UInt64) (hM : mR l yX2_meanPay cX2_meanPay 6 (some .double) f lo D (kTy k) [.ref b] Wc (some (.double v))) : mH l yL_meanPay cL_meanPay 3 (some .int) [(0, 7, 10, 101)] 14 700 4 24 D (kTy k) [.ref b, .ref ao] (Wc ++ [oD k ao lf]) (.inl (some (.int 0), (Wc ++ [oD k ao (vf_upd lf 0 v)]))) := by
  refine mH.of (lv' := [(0, .ref b), (1, .ref ao)]) (by decide) (Nat.le_of_ble_eq_true rfl) rfl ?_
  intro p e s m args below meth c E hr hlk htab hZ hA
  refine k_aload_n E 1 rfl rfl dL_meanPay_0 ?_
  refine k_iconst E (v := 0) (by decide) dL_meanPay_1 ?_
  refine k_aload_n E 0 rfl rfl dL_meanPay_2 ?_
  refine k_callRV [] E hM cf_X2_meanPay q_664 (List.range' 0 Wc.length) (by have q9 := fm_mid [] Wc [oD k ao lf]; simpa using q9) 0 (he_l he) rfl rfl rfl ⟨show f + 1 ≤ 14 by omega, show 8 + (6 + 11) + lo ≤ 700 by omega⟩ (Nat.le_of_ble_eq_true rfl) ⟨by decide, by decide⟩ dL_meanPay_3 ?_
  refine k_dast E (ws' := (Wc ++ [oD k ao (vf_upd lf 0 v)])) (n := 1) (f := lf) Wc.length 4 (by simp) rfl (j := 0) rfl (by decide) (by decide) (by simp) dL_meanPay_6 ?_
  refine k_goto E (tgt := 13) (by decide) dL_meanPay_7 ?_
  refine k_iconst E (v := 0) (by decide) dL_meanPay_13 ?_
  exact kx_iret E hr hlk rfl rfl rfl (by omega) (by omega) dL_meanPay_14
set_option maxRecDepth 100000 in
theorem w_meanPay_r {f lo mc ms : Nat} (l : Launch) (D : va_G) (k : Nat → ClassId) (ao b : Nat) (lf : Nat → UInt64) (Wc : va_W) {fs : List Value} (hf : f ≤ 12) (hlo : lo ≤ 600) (hmc : mc ≤ 4) (hms : ms ≤ 24) (he : Wc[0]? = some (b, .inr (2, fs))) (hM : mX l yX2_meanPay cX2_meanPay 6 (some .double) f lo mc ms D (kTy k) [.ref b] Wc (.inr "java/lang/ArithmeticException")) : mH l yL_meanPay cL_meanPay 3 (some .int) [(0, 7, 10, 101)] 14 700 4 24 D (kTy k) [.ref b, .ref ao] (Wc ++ [oD k ao lf]) (.inl (some (.int 1), (Wc ++ [oD k ao lf]))) := by
  refine mH.of (lv' := [(0, .ref b), (1, .ref ao)]) (by decide) (Nat.le_of_ble_eq_true rfl) rfl ?_
  intro p e s m args below meth c E hr hlk htab hZ hA
  refine k_aload_n E 1 rfl rfl dL_meanPay_0 ?_
  refine k_iconst E (v := 0) (by decide) dL_meanPay_1 ?_
  refine k_aload_n E 0 rfl rfl dL_meanPay_2 ?_
  refine k_callXV [] E hA hZ hM cf_X2_meanPay q_664 [] [oD k ao lf] (by simp) 0 (he_l he) rfl rfl rfl ⟨show f + 1 ≤ 14 by omega, show 8 + (6 + 11) + lo ≤ 700 by omega⟩ (Nat.le_of_ble_eq_true rfl) ⟨show 0 + mc ≤ 4 by omega, show 0 + ms ≤ 24 by omega⟩ dL_meanPay_3 (fun v W1 q => nomatch q) (fun X q => ?_)
  cases q
  refine k_xcatch E htab (tableOf []) (⟨0, 7, 10, 101⟩ : ExceptionTableEntry) (tableOf []) rfl (fun z hz => ?_) (by decide) (by decide) q_636 (by decide +kernel) (fun q => ?_)
  · exact nomatch hz
  refine k_astore_n (lv' := [(2, .ref q), (0, .ref b), (1, .ref ao)]) E rfl (by decide) rfl dL_meanPay_10 ?_
  refine k_iconst E (v := 1) (by decide) dL_meanPay_11 ?_
  exact kx_iret E hr hlk rfl rfl rfl (by omega) (by omega) dL_meanPay_12
