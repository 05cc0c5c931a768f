set_option maxRecDepth 100000 in
theorem g_addFarm {p : Program} {e : Env} {s : State} {m : MethodId} {args : Array Value} {below : List Frame} {meth : Method} {c : Code} {Q : State → Prop} {A : Nat → Prop} {l : Launch} {D : va_G} {k : Nat → ClassId} {cells slots sc L ip aR aM ao ad : Nat} {xs : Nat → Int32} (E : kE p s m args c "MilkRoundLaw" cL_law 9 D (kTy k) (gW D A s.heap)) (hA : ∀ q, s.heap.size ≤ q → A q) (hZ : kZ A s s.heap) (hX : va_X sc L xs s s.heap) (hbl : sc < s.heap.size) (hbA : ¬ A sc) (hL : L ≤ 1536) (hip : ip + 3 ≤ L) (x1 : Int32) (hx1 : xs (ip + 1) = x1) {MR MR' : va_W} {lf lf' : Nat → Int64} {df : Nat → UInt64} {r : Int32} (hW : mH l yL_addFarm cL_addFarm 4 (some .int) [(0, 9, 12, 13), (0, 9, 15, 15)] 14 700 4 24 D (kTy k) [.ref aR, .int x1, .ref ao] (oL k ao lf :: MR) (.inl (some (.int r), oL k ao lf' :: MR'))) {MO MO' : va_W} {fs1 fs2 : List Value} (heMO : MO[0]? = some (aM, .inr (3, fs1))) (heMO' : MO'[0]? = some (aM, .inr (3, fs2))) {f lo : Nat} (hf : f ≤ 16) (hlo : lo ≤ 800) {v : Int32} (hMo : mW l yX3_addFarm cX3_addFarm 2 (some .int) f lo 0 0 D (kTy k) [.ref aM, .int x1] MO (some (.int v)) MO') (hTh : mR l yX3_thrown cX3_thrown 1 (some .int) 0 0 D (kTy k) [.ref aM] MO' (some (.int r))) (hres : r = 0 → lf' 0 = v.toInt64) (hcap : cells + 4 ≤ 603072 ∧ slots + 24 ≤ 7219306) (K : kJ p l e (kRmc 21 10870 603072 7219306) s m args below meth c (gW D A s.heap) 9 (cells + 4) (slots + 24) Q (MO' ++ ((oL k ao lf' :: MR') ++ [oD k ad df])) 1730 [(5, .int (nI ip)), (0, .ref sc), (1, .ref aR), (2, .ref aM), (3, .ref ao), (4, .ref ad)] []) : kJ p l e (kRmc 21 10870 603072 7219306) s m args below meth c (gW D A s.heap) 9 cells slots Q (MO ++ ((oL k ao lf :: MR) ++ [oD k ad df])) 180 [(5, .int (nI ip)), (0, .ref sc), (1, .ref aR), (2, .ref aM), (3, .ref ao), (4, .ref ad)] [] := by
  refine k_aload_n E 2 rfl rfl dL_law_180 ?_
  refine k_aload_n E 1 rfl rfl dL_law_181 ?_
  refine k_iload E 0 rfl dL_law_182 ?_
  refine k_iconst E (v := 1) (by decide) dL_law_184 ?_
  refine k_iadd E dL_law_185 ?_
  refine k_steq (st' := .int (nI (ip + 1)) :: [.ref sc, .ref aR]) (by rw [show nI ip + 1 = nI (ip + 1) from nI_add ip 1]; all_goals rfl) ?_
  refine k_sld E hX hbl hbA (by omega) hL hx1 dL_law_186 ?_
  refine k_aload_n E 4 rfl rfl dL_law_187 ?_
  refine k_callXS [.ref aR, .int x1, .ref ao] E hA hZ hW cf_L_addFarm q_144 MO [oD k ad df] rfl rfl rfl ⟨by decide, by decide⟩ (Nat.le_of_ble_eq_true rfl) hcap dL_law_188 ?_
  refine k_istore (lv' := [(6, .int r), (5, .int (nI ip)), (0, .ref sc), (1, .ref aR), (2, .ref aM), (3, .ref ao), (4, .ref ad)]) E (by decide) rfl dL_law_191 ?_
  refine k_aload_n E 4 rfl rfl dL_law_193 ?_
  refine k_aload_n E 2 rfl rfl dL_law_194 ?_
  refine k_iload E 1 rfl dL_law_195 ?_
  refine k_iconst E (v := 1) (by decide) dL_law_197 ?_
  refine k_iadd E dL_law_198 ?_
  refine k_steq (st' := .int (nI (ip + 1)) :: [.ref sc, .ref aM]) (by rw [show nI ip + 1 = nI (ip + 1) from nI_add ip 1]; all_goals rfl) ?_
  refine k_sld E hX hbl hbA (by omega) hL hx1 dL_law_199 ?_
  refine k_callWV0 [.int x1] E hA hMo cf_X3_addFarm q_743 [] ((oL k ao lf' :: MR') ++ [oD k ad df]) rfl heMO rfl rfl rfl ⟨show f + 1 ≤ 21 by omega, show 8 + (2 + 11) + lo ≤ 10870 by omega⟩ (Nat.le_of_ble_eq_true rfl) ⟨show cells + 4 + 0 ≤ 603072 by omega, show slots + 24 + 0 ≤ 7219306 by omega⟩ dL_law_200 ?_
  refine k_istore (lv' := [(7, .int v), (6, .int r), (5, .int (nI ip)), (0, .ref sc), (1, .ref aR), (2, .ref aM), (3, .ref ao), (4, .ref ad)]) E (by decide) rfl dL_law_203 ?_
  refine k_aload_n E 5 rfl rfl dL_law_205 ?_
  refine k_callRV0 [] E hTh cf_X3_thrown q_739 [] ((oL k ao lf' :: MR') ++ [oD k ad df]) rfl heMO' rfl rfl rfl ⟨by decide, by decide⟩ (Nat.le_of_ble_eq_true rfl) ⟨show cells + 4 ≤ 603072 by omega, show slots + 24 ≤ 7219306 by omega⟩ dL_law_206 ?_
  refine k_iload E 1 rfl dL_law_209 ?_
  refine k_icmp_eq E (tgt := 216) (by decide) dL_law_211 (fun _ => ?_) (fun q => absurd rfl q)
  refine k_iload E 1 rfl dL_law_216 ?_
  refine k_if_ne E (tgt := 233) (by decide) dL_law_218 (fun hr0 => ?_) (fun hr0 => ?_)
  · skip
    refine k_goto E (tgt := 1730) (by decide) dL_law_233 ?_
    exact k_lv [2, 3, 4, 5, 6, 7] rfl K
  · skip
    refine k_aload_n E 6 rfl rfl dL_law_221 ?_
    refine k_iconst E (v := 0) (by decide) dL_law_222 ?_
    refine k_lald E (n := 1) (f := lf') MO'.length 3 (by simp) rfl (j := 0) rfl (by decide) (by decide) dL_law_223 ?_
    refine k_iload E 0 rfl dL_law_224 ?_
    refine k_i2l E (v := v.toInt64) rfl dL_law_226 ?_
    refine k_lcmp E dL_law_227 ?_
    refine k_if_eq E (tgt := 233) (by decide) dL_law_228 (fun _ => ?_) (fun q => absurd (by rw [hres hr0]; exact lg_self _) q)
    refine k_goto E (tgt := 1730) (by decide) dL_law_233 ?_
    exact k_lv [2, 3, 4, 5, 6, 7] rfl K
set_option maxRecDepth 100000 in
theorem g_addCow {p : Program} {e : Env} {s : State} {m : MethodId} {args : Array Value} {below : List Frame} {meth : Method} {c : Code} {Q : State → Prop} {A : Nat → Prop} {l : Launch} {D : va_G} {k : Nat → ClassId} {cells slots sc L ip aR aM ao ad : Nat} {xs : Nat → Int32} (E : kE p s m args c "MilkRoundLaw" cL_law 9 D (kTy k) (gW D A s.heap)) (hA : ∀ q, s.heap.size ≤ q → A q) (hZ : kZ A s s.heap) (hX : va_X sc L xs s s.heap) (hbl : sc < s.heap.size) (hbA : ¬ A sc) (hL : L ≤ 1536) (hip : ip + 3 ≤ L) (x1 : Int32) (hx1 : xs (ip + 1) = x1) (x2 : Int32) (hx2 : xs (ip + 2) = x2) {MR MR' : va_W} {lf lf' : Nat → Int64} {df : Nat → UInt64} {r : Int32} (hW : mH l yL_addCow cL_addCow 5 (some .int) [(0, 10, 13, 21), (0, 10, 17, 13), (0, 10, 21, 15)] 14 700 4 24 D (kTy k) [.ref aR, .int x1, .int x2, .ref ao] (oL k ao lf :: MR) (.inl (some (.int r), oL k ao lf' :: MR'))) {MO MO' : va_W} {fs1 fs2 : List Value} (heMO : MO[0]? = some (aM, .inr (3, fs1))) (heMO' : MO'[0]? = some (aM, .inr (3, fs2))) {f lo : Nat} (hf : f ≤ 16) (hlo : lo ≤ 800) {v : Int32} (hMo : mW l yX3_addCow cX3_addCow 3 (some .int) f lo 0 0 D (kTy k) [.ref aM, .int x1, .int x2] MO (some (.int v)) MO') (hTh : mR l yX3_thrown cX3_thrown 1 (some .int) 0 0 D (kTy k) [.ref aM] MO' (some (.int r))) (hres : r = 0 → lf' 0 = v.toInt64) (hcap : cells + 4 ≤ 603072 ∧ slots + 24 ≤ 7219306) (K : kJ p l e (kRmc 21 10870 603072 7219306) s m args below meth c (gW D A s.heap) 9 (cells + 4) (slots + 24) Q (MO' ++ ((oL k ao lf' :: MR') ++ [oD k ad df])) 1730 [(5, .int (nI ip)), (0, .ref sc), (1, .ref aR), (2, .ref aM), (3, .ref ao), (4, .ref ad)] []) : kJ p l e (kRmc 21 10870 603072 7219306) s m args below meth c (gW D A s.heap) 9 cells slots Q (MO ++ ((oL k ao lf :: MR) ++ [oD k ad df])) 236 [(5, .int (nI ip)), (0, .ref sc), (1, .ref aR), (2, .ref aM), (3, .ref ao), (4, .ref ad)] [] := by
  refine k_aload_n E 2 rfl rfl dL_law_236 ?_
  refine k_aload_n E 1 rfl rfl dL_law_237 ?_
  refine k_iload E 0 rfl dL_law_238 ?_
  refine k_iconst E (v := 1) (by decide) dL_law_240 ?_
  refine k_iadd E dL_law_241 ?_
  refine k_steq (st' := .int (nI (ip + 1)) :: [.ref sc, .ref aR]) (by rw [show nI ip + 1 = nI (ip + 1) from nI_add ip 1]; all_goals rfl) ?_
  refine k_sld E hX hbl hbA (by omega) hL hx1 dL_law_242 ?_
  refine k_aload_n E 1 rfl rfl dL_law_243 ?_
  refine k_iload E 0 rfl dL_law_244 ?_
  refine k_iconst E (v := 2) (by decide) dL_law_246 ?_
  refine k_iadd E dL_law_247 ?_
  refine k_steq (st' := .int (nI (ip + 2)) :: [.ref sc, .int x1, .ref aR]) (by rw [show nI ip + 2 = nI (ip + 2) from nI_add ip 2]; all_goals rfl) ?_
  refine k_sld E hX hbl hbA (by omega) hL hx2 dL_law_248 ?_
  refine k_aload_n E 4 rfl rfl dL_law_249 ?_
  refine k_callXS [.ref aR, .int x1, .int x2, .ref ao] E hA hZ hW cf_L_addCow q_245 MO [oD k ad df] rfl rfl rfl ⟨by decide, by decide⟩ (Nat.le_of_ble_eq_true rfl) hcap dL_law_250 ?_
  refine k_istore (lv' := [(6, .int r), (5, .int (nI ip)), (0, .ref sc), (1, .ref aR), (2, .ref aM), (3, .ref ao), (4, .ref ad)]) E (by decide) rfl dL_law_253 ?_
  refine k_aload_n E 4 rfl rfl dL_law_255 ?_
  refine k_aload_n E 2 rfl rfl dL_law_256 ?_
  refine k_iload E 1 rfl dL_law_257 ?_
  refine k_iconst E (v := 1) (by decide) dL_law_259 ?_
  refine k_iadd E dL_law_260 ?_
  refine k_steq (st' := .int (nI (ip + 1)) :: [.ref sc, .ref aM]) (by rw [show nI ip + 1 = nI (ip + 1) from nI_add ip 1]; all_goals rfl) ?_
  refine k_sld E hX hbl hbA (by omega) hL hx1 dL_law_261 ?_
  refine k_aload_n E 2 rfl rfl dL_law_262 ?_
  refine k_iload E 1 rfl dL_law_263 ?_
  refine k_iconst E (v := 2) (by decide) dL_law_265 ?_
  refine k_iadd E dL_law_266 ?_
  refine k_steq (st' := .int (nI (ip + 2)) :: [.ref sc, .int x1, .ref aM]) (by rw [show nI ip + 2 = nI (ip + 2) from nI_add ip 2]; all_goals rfl) ?_
  refine k_sld E hX hbl hbA (by omega) hL hx2 dL_law_267 ?_
  refine k_callWV0 [.int x1, .int x2] E hA hMo cf_X3_addCow q_752 [] ((oL k ao lf' :: MR') ++ [oD k ad df]) rfl heMO rfl rfl rfl ⟨show f + 1 ≤ 21 by omega, show 8 + (3 + 11) + lo ≤ 10870 by omega⟩ (Nat.le_of_ble_eq_true rfl) ⟨show cells + 4 + 0 ≤ 603072 by omega, show slots + 24 + 0 ≤ 7219306 by omega⟩ dL_law_268 ?_
  refine k_istore (lv' := [(7, .int v), (6, .int r), (5, .int (nI ip)), (0, .ref sc), (1, .ref aR), (2, .ref aM), (3, .ref ao), (4, .ref ad)]) E (by decide) rfl dL_law_271 ?_
  refine k_aload_n E 5 rfl rfl dL_law_273 ?_
  refine k_callRV0 [] E hTh cf_X3_thrown q_739 [] ((oL k ao lf' :: MR') ++ [oD k ad df]) rfl heMO' rfl rfl rfl ⟨by decide, by decide⟩ (Nat.le_of_ble_eq_true rfl) ⟨show cells + 4 ≤ 603072 by omega, show slots + 24 ≤ 7219306 by omega⟩ dL_law_274 ?_
  refine k_iload E 1 rfl dL_law_277 ?_
  refine k_icmp_eq E (tgt := 284) (by decide) dL_law_279 (fun _ => ?_) (fun q => absurd rfl q)
  refine k_iload E 1 rfl dL_law_284 ?_
  refine k_if_ne E (tgt := 301) (by decide) dL_law_286 (fun hr0 => ?_) (fun hr0 => ?_)
  · skip
    refine k_goto E (tgt := 1730) (by decide) dL_law_301 ?_
    exact k_lv [2, 3, 4, 5, 6, 7] rfl K
  · skip
    refine k_aload_n E 6 rfl rfl dL_law_289 ?_
    refine k_iconst E (v := 0) (by decide) dL_law_290 ?_
    refine k_lald E (n := 1) (f := lf') MO'.length 3 (by simp) rfl (j := 0) rfl (by decide) (by decide) dL_law_291 ?_
    refine k_iload E 0 rfl dL_law_292 ?_
    refine k_i2l E (v := v.toInt64) rfl dL_law_294 ?_
    refine k_lcmp E dL_law_295 ?_
    refine k_if_eq E (tgt := 301) (by decide) dL_law_296 (fun _ => ?_) (fun q => absurd (by rw [hres hr0]; exact lg_self _) q)
    refine k_goto E (tgt := 1730) (by decide) dL_law_301 ?_
    exact k_lv [2, 3, 4, 5, 6, 7] rfl K
set_option maxRecDepth 100000 in
theorem g_milkOf {p : Program} {e : Env} {s : State} {m : MethodId} {args : Array Value} {below : List Frame} {meth : Method} {c : Code} {Q : State → Prop} {A : Nat → Prop} {l : Launch} {D : va_G} {k : Nat → ClassId} {cells slots sc L ip aR aM ao ad : Nat} {xs : Nat → Int32} (E : kE p s m args c "MilkRoundLaw" cL_law 9 D (kTy k) (gW D A s.heap)) (hA : ∀ q, s.heap.size ≤ q → A q) (hZ : kZ A s s.heap) (hX : va_X sc L xs s s.heap) (hbl : sc < s.heap.size) (hbA : ¬ A sc) (hL : L ≤ 1536) (hip : ip + 3 ≤ L) (x1 : Int32) (hx1 : xs (ip + 1) = x1) (x2 : Int32) (hx2 : xs (ip + 2) = x2) {MR MR' : va_W} {lf lf' : Nat → Int64} {df : Nat → UInt64} {r : Int32} (hW : mH l yL_milkOf cL_milkOf 5 (some .int) [(0, 10, 13, 21), (0, 10, 17, 13)] 14 700 4 24 D (kTy k) [.ref aR, .int x1, .int x2, .ref ao] (oL k ao lf :: MR) (.inl (some (.int r), oL k ao lf' :: MR'))) {MO MO' : va_W} {fs1 fs2 : List Value} (heMO : MO[0]? = some (aM, .inr (3, fs1))) (heMO' : MO'[0]? = some (aM, .inr (3, fs2))) {f lo : Nat} (hf : f ≤ 16) (hlo : lo ≤ 800) {v : Int32} (hMo : mW l yX3_milkOf cX3_milkOf 5 (some .int) f lo 0 0 D (kTy k) [.ref aM, .int x1, .int x2] MO (some (.int v)) MO') (hTh : mR l yX3_thrown cX3_thrown 1 (some .int) 0 0 D (kTy k) [.ref aM] MO' (some (.int r))) (hres : r = 0 → lf' 0 = v.toInt64) (hcap : cells + 4 ≤ 603072 ∧ slots + 24 ≤ 7219306) (K : kJ p l e (kRmc 21 10870 603072 7219306) s m args below meth c (gW D A s.heap) 9 (cells + 4) (slots + 24) Q (MO' ++ ((oL k ao lf' :: MR') ++ [oD k ad df])) 1730 [(5, .int (nI ip)), (0, .ref sc), (1, .ref aR), (2, .ref aM), (3, .ref ao), (4, .ref ad)] []) : kJ p l e (kRmc 21 10870 603072 7219306) s m args below meth c (gW D A s.heap) 9 cells slots Q (MO ++ ((oL k ao lf :: MR) ++ [oD k ad df])) 304 [(5, .int (nI ip)), (0, .ref sc), (1, .ref aR), (2, .ref aM), (3, .ref ao), (4, .ref ad)] [] := by
  refine k_aload_n E 2 rfl rfl dL_law_304 ?_
  refine k_aload_n E 1 rfl rfl dL_law_305 ?_
  refine k_iload E 0 rfl dL_law_306 ?_
  refine k_iconst E (v := 1) (by decide) dL_law_308 ?_
  refine k_iadd E dL_law_309 ?_
  refine k_steq (st' := .int (nI (ip + 1)) :: [.ref sc, .ref aR]) (by rw [show nI ip + 1 = nI (ip + 1) from nI_add ip 1]; all_goals rfl) ?_
  refine k_sld E hX hbl hbA (by omega) hL hx1 dL_law_310 ?_
  refine k_aload_n E 1 rfl rfl dL_law_311 ?_
  refine k_iload E 0 rfl dL_law_312 ?_
  refine k_iconst E (v := 2) (by decide) dL_law_314 ?_
  refine k_iadd E dL_law_315 ?_
  refine k_steq (st' := .int (nI (ip + 2)) :: [.ref sc, .int x1, .ref aR]) (by rw [show nI ip + 2 = nI (ip + 2) from nI_add ip 2]; all_goals rfl) ?_
  refine k_sld E hX hbl hbA (by omega) hL hx2 dL_law_316 ?_
  refine k_aload_n E 4 rfl rfl dL_law_317 ?_
  refine k_callXS [.ref aR, .int x1, .int x2, .ref ao] E hA hZ hW cf_L_milkOf q_299 MO [oD k ad df] rfl rfl rfl ⟨by decide, by decide⟩ (Nat.le_of_ble_eq_true rfl) hcap dL_law_318 ?_
  refine k_istore (lv' := [(6, .int r), (5, .int (nI ip)), (0, .ref sc), (1, .ref aR), (2, .ref aM), (3, .ref ao), (4, .ref ad)]) E (by decide) rfl dL_law_321 ?_
  refine k_aload_n E 4 rfl rfl dL_law_323 ?_
  refine k_aload_n E 2 rfl rfl dL_law_324 ?_
  refine k_iload E 1 rfl dL_law_325 ?_
  refine k_iconst E (v := 1) (by decide) dL_law_327 ?_
  refine k_iadd E dL_law_328 ?_
  refine k_steq (st' := .int (nI (ip + 1)) :: [.ref sc, .ref aM]) (by rw [show nI ip + 1 = nI (ip + 1) from nI_add ip 1]; all_goals rfl) ?_
  refine k_sld E hX hbl hbA (by omega) hL hx1 dL_law_329 ?_
  refine k_aload_n E 2 rfl rfl dL_law_330 ?_
  refine k_iload E 1 rfl dL_law_331 ?_
  refine k_iconst E (v := 2) (by decide) dL_law_333 ?_
  refine k_iadd E dL_law_334 ?_
  refine k_steq (st' := .int (nI (ip + 2)) :: [.ref sc, .int x1, .ref aM]) (by rw [show nI ip + 2 = nI (ip + 2) from nI_add ip 2]; all_goals rfl) ?_
  refine k_sld E hX hbl hbA (by omega) hL hx2 dL_law_335 ?_
  refine k_callWV0 [.int x1, .int x2] E hA hMo cf_X3_milkOf q_762 [] ((oL k ao lf' :: MR') ++ [oD k ad df]) rfl heMO rfl rfl rfl ⟨show f + 1 ≤ 21 by omega, show 8 + (5 + 11) + lo ≤ 10870 by omega⟩ (Nat.le_of_ble_eq_true rfl) ⟨show cells + 4 + 0 ≤ 603072 by omega, show slots + 24 + 0 ≤ 7219306 by omega⟩ dL_law_336 ?_
  refine k_istore (lv' := [(7, .int v), (6, .int r), (5, .int (nI ip)), (0, .ref sc), (1, .ref aR), (2, .ref aM), (3, .ref ao), (4, .ref ad)]) E (by decide) rfl dL_law_339 ?_
  refine k_aload_n E 5 rfl rfl dL_law_341 ?_
  refine k_callRV0 [] E hTh cf_X3_thrown q_739 [] ((oL k ao lf' :: MR') ++ [oD k ad df]) rfl heMO' rfl rfl rfl ⟨by decide, by decide⟩ (Nat.le_of_ble_eq_true rfl) ⟨show cells + 4 ≤ 603072 by omega, show slots + 24 ≤ 7219306 by omega⟩ dL_law_342 ?_
  refine k_iload E 1 rfl dL_law_345 ?_
  refine k_icmp_eq E (tgt := 352) (by decide) dL_law_347 (fun _ => ?_) (fun q => absurd rfl q)
  refine k_iload E 1 rfl dL_law_352 ?_
  refine k_if_ne E (tgt := 369) (by decide) dL_law_354 (fun hr0 => ?_) (fun hr0 => ?_)
  · skip
    refine k_goto E (tgt := 1730) (by decide) dL_law_369 ?_
    exact k_lv [2, 3, 4, 5, 6, 7] rfl K
  · skip
    refine k_aload_n E 6 rfl rfl dL_law_357 ?_
    refine k_iconst E (v := 0) (by decide) dL_law_358 ?_
    refine k_lald E (n := 1) (f := lf') MO'.length 3 (by simp) rfl (j := 0) rfl (by decide) (by decide) dL_law_359 ?_
    refine k_iload E 0 rfl dL_law_360 ?_
    refine k_i2l E (v := v.toInt64) rfl dL_law_362 ?_
    refine k_lcmp E dL_law_363 ?_
    refine k_if_eq E (tgt := 369) (by decide) dL_law_364 (fun _ => ?_) (fun q => absurd (by rw [hres hr0]; exact lg_self _) q)
    refine k_goto E (tgt := 1730) (by decide) dL_law_369 ?_
    exact k_lv [2, 3, 4, 5, 6, 7] rfl K
set_option maxRecDepth 100000 in
theorem g_inTank {p : Program} {e : Env} {s : State} {m : MethodId} {args : Array Value} {below : List Frame} {meth : Method} {c : Code} {Q : State → Prop} {A : Nat → Prop} {l : Launch} {D : va_G} {k : Nat → ClassId} {cells slots sc L ip aR aM ao ad : Nat} {xs : Nat → Int32} (E : kE p s m args c "MilkRoundLaw" cL_law 9 D (kTy k) (gW D A s.heap)) (hA : ∀ q, s.heap.size ≤ q → A q) (hZ : kZ A s s.heap) (hX : va_X sc L xs s s.heap) (hbl : sc < s.heap.size) (hbA : ¬ A sc) (hL : L ≤ 1536) (hip : ip + 3 ≤ L) (x1 : Int32) (hx1 : xs (ip + 1) = x1) {MR MR' : va_W} {lf lf' : Nat → Int64} {df : Nat → UInt64} {r : Int32} (hW : mH l yL_inTank cL_inTank 4 (some .int) [(0, 9, 12, 21)] 14 700 4 24 D (kTy k) [.ref aR, .int x1, .ref ao] (oL k ao lf :: MR) (.inl (some (.int r), oL k ao lf' :: MR'))) {MO MO' : va_W} {fs1 fs2 : List Value} (heMO : MO[0]? = some (aM, .inr (3, fs1))) (heMO' : MO'[0]? = some (aM, .inr (3, fs2))) {f lo : Nat} (hf : f ≤ 16) (hlo : lo ≤ 800) {v : Int32} (hMo : mW l yX3_inTank cX3_inTank 2 (some .int) f lo 0 0 D (kTy k) [.ref aM, .int x1] MO (some (.int v)) MO') (hTh : mR l yX3_thrown cX3_thrown 1 (some .int) 0 0 D (kTy k) [.ref aM] MO' (some (.int r))) (hres : r = 0 → lf' 0 = v.toInt64) (hcap : cells + 4 ≤ 603072 ∧ slots + 24 ≤ 7219306) (K : kJ p l e (kRmc 21 10870 603072 7219306) s m args below meth c (gW D A s.heap) 9 (cells + 4) (slots + 24) Q (MO' ++ ((oL k ao lf' :: MR') ++ [oD k ad df])) 1730 [(5, .int (nI ip)), (0, .ref sc), (1, .ref aR), (2, .ref aM), (3, .ref ao), (4, .ref ad)] []) : kJ p l e (kRmc 21 10870 603072 7219306) s m args below meth c (gW D A s.heap) 9 cells slots Q (MO ++ ((oL k ao lf :: MR) ++ [oD k ad df])) 372 [(5, .int (nI ip)), (0, .ref sc), (1, .ref aR), (2, .ref aM), (3, .ref ao), (4, .ref ad)] [] := by
  refine k_aload_n E 2 rfl rfl dL_law_372 ?_
  refine k_aload_n E 1 rfl rfl dL_law_373 ?_
  refine k_iload E 0 rfl dL_law_374 ?_
  refine k_iconst E (v := 1) (by decide) dL_law_376 ?_
  refine k_iadd E dL_law_377 ?_
  refine k_steq (st' := .int (nI (ip + 1)) :: [.ref sc, .ref aR]) (by rw [show nI ip + 1 = nI (ip + 1) from nI_add ip 1]; all_goals rfl) ?_
  refine k_sld E hX hbl hbA (by omega) hL hx1 dL_law_378 ?_
  refine k_aload_n E 4 rfl rfl dL_law_379 ?_
  refine k_callXS [.ref aR, .int x1, .ref ao] E hA hZ hW cf_L_inTank q_320 MO [oD k ad df] rfl rfl rfl ⟨by decide, by decide⟩ (Nat.le_of_ble_eq_true rfl) hcap dL_law_380 ?_
  refine k_istore (lv' := [(6, .int r), (5, .int (nI ip)), (0, .ref sc), (1, .ref aR), (2, .ref aM), (3, .ref ao), (4, .ref ad)]) E (by decide) rfl dL_law_383 ?_
  refine k_aload_n E 4 rfl rfl dL_law_385 ?_
  refine k_aload_n E 2 rfl rfl dL_law_386 ?_
  refine k_iload E 1 rfl dL_law_387 ?_
  refine k_iconst E (v := 1) (by decide) dL_law_389 ?_
  refine k_iadd E dL_law_390 ?_
  refine k_steq (st' := .int (nI (ip + 1)) :: [.ref sc, .ref aM]) (by rw [show nI ip + 1 = nI (ip + 1) from nI_add ip 1]; all_goals rfl) ?_
  refine k_sld E hX hbl hbA (by omega) hL hx1 dL_law_391 ?_
  refine k_callWV0 [.int x1] E hA hMo cf_X3_inTank q_770 [] ((oL k ao lf' :: MR') ++ [oD k ad df]) rfl heMO rfl rfl rfl ⟨show f + 1 ≤ 21 by omega, show 8 + (2 + 11) + lo ≤ 10870 by omega⟩ (Nat.le_of_ble_eq_true rfl) ⟨show cells + 4 + 0 ≤ 603072 by omega, show slots + 24 + 0 ≤ 7219306 by omega⟩ dL_law_392 ?_
  refine k_istore (lv' := [(7, .int v), (6, .int r), (5, .int (nI ip)), (0, .ref sc), (1, .ref aR), (2, .ref aM), (3, .ref ao), (4, .ref ad)]) E (by decide) rfl dL_law_395 ?_
  refine k_aload_n E 5 rfl rfl dL_law_397 ?_
  refine k_callRV0 [] E hTh cf_X3_thrown q_739 [] ((oL k ao lf' :: MR') ++ [oD k ad df]) rfl heMO' rfl rfl rfl ⟨by decide, by decide⟩ (Nat.le_of_ble_eq_true rfl) ⟨show cells + 4 ≤ 603072 by omega, show slots + 24 ≤ 7219306 by omega⟩ dL_law_398 ?_
  refine k_iload E 1 rfl dL_law_401 ?_
  refine k_icmp_eq E (tgt := 408) (by decide) dL_law_403 (fun _ => ?_) (fun q => absurd rfl q)
  refine k_iload E 1 rfl dL_law_408 ?_
  refine k_if_ne E (tgt := 425) (by decide) dL_law_410 (fun hr0 => ?_) (fun hr0 => ?_)
  · skip
    refine k_goto E (tgt := 1730) (by decide) dL_law_425 ?_
    exact k_lv [2, 3, 4, 5, 6, 7] rfl K
  · skip
    refine k_aload_n E 6 rfl rfl dL_law_413 ?_
    refine k_iconst E (v := 0) (by decide) dL_law_414 ?_
    refine k_lald E (n := 1) (f := lf') MO'.length 3 (by simp) rfl (j := 0) rfl (by decide) (by decide) dL_law_415 ?_
    refine k_iload E 0 rfl dL_law_416 ?_
    refine k_i2l E (v := v.toInt64) rfl dL_law_418 ?_
    refine k_lcmp E dL_law_419 ?_
    refine k_if_eq E (tgt := 425) (by decide) dL_law_420 (fun _ => ?_) (fun q => absurd (by rw [hres hr0]; exact lg_self _) q)
    refine k_goto E (tgt := 1730) (by decide) dL_law_425 ?_
    exact k_lv [2, 3, 4, 5, 6, 7] rfl K
set_option maxRecDepth 100000 in
theorem g_pass {p : Program} {e : Env} {s : State} {m : MethodId} {args : Array Value} {below : List Frame} {meth : Method} {c : Code} {Q : State → Prop} {A : Nat → Prop} {l : Launch} {D : va_G} {k : Nat → ClassId} {cells slots sc L ip aR aM ao ad : Nat} {xs : Nat → Int32} (E : kE p s m args c "MilkRoundLaw" cL_law 9 D (kTy k) (gW D A s.heap)) (hA : ∀ q, s.heap.size ≤ q → A q) (hZ : kZ A s s.heap) (hX : va_X sc L xs s s.heap) (hbl : sc < s.heap.size) (hbA : ¬ A sc) (hL : L ≤ 1536) (hip : ip + 3 ≤ L) (x1 : Int32) (hx1 : xs (ip + 1) = x1) {MR MR' : va_W} {lf lf' : Nat → Int64} {df : Nat → UInt64} {r : Int32} (hW : mH l yL_pass cL_pass 4 (some .int) [(0, 9, 12, 13)] 14 700 4 24 D (kTy k) [.ref aR, .int x1, .ref ao] (oL k ao lf :: MR) (.inl (some (.int r), oL k ao lf' :: MR'))) {MO MO' : va_W} {fs1 fs2 : List Value} (heMO : MO[0]? = some (aM, .inr (3, fs1))) (heMO' : MO'[0]? = some (aM, .inr (3, fs2))) {f lo : Nat} (hf : f ≤ 16) (hlo : lo ≤ 800) {v : Int32} (hMo : mW l yX3_pass cX3_pass 9 (some .int) f lo 0 0 D (kTy k) [.ref aM, .int x1] MO (some (.int v)) MO') (hTh : mR l yX3_thrown cX3_thrown 1 (some .int) 0 0 D (kTy k) [.ref aM] MO' (some (.int r))) (hres : r = 0 → lf' 0 = v.toInt64) (hcap : cells + 4 ≤ 603072 ∧ slots + 24 ≤ 7219306) (K : kJ p l e (kRmc 21 10870 603072 7219306) s m args below meth c (gW D A s.heap) 9 (cells + 4) (slots + 24) Q (MO' ++ ((oL k ao lf' :: MR') ++ [oD k ad df])) 1730 [(5, .int (nI ip)), (0, .ref sc), (1, .ref aR), (2, .ref aM), (3, .ref ao), (4, .ref ad)] []) : kJ p l e (kRmc 21 10870 603072 7219306) s m args below meth c (gW D A s.heap) 9 cells slots Q (MO ++ ((oL k ao lf :: MR) ++ [oD k ad df])) 428 [(5, .int (nI ip)), (0, .ref sc), (1, .ref aR), (2, .ref aM), (3, .ref ao), (4, .ref ad)] [] := by
  refine k_aload_n E 2 rfl rfl dL_law_428 ?_
  refine k_aload_n E 1 rfl rfl dL_law_429 ?_
  refine k_iload E 0 rfl dL_law_430 ?_
  refine k_iconst E (v := 1) (by decide) dL_law_432 ?_
  refine k_iadd E dL_law_433 ?_
  refine k_steq (st' := .int (nI (ip + 1)) :: [.ref sc, .ref aR]) (by rw [show nI ip + 1 = nI (ip + 1) from nI_add ip 1]; all_goals rfl) ?_
  refine k_sld E hX hbl hbA (by omega) hL hx1 dL_law_434 ?_
  refine k_aload_n E 4 rfl rfl dL_law_435 ?_
  refine k_callXS [.ref aR, .int x1, .ref ao] E hA hZ hW cf_L_pass q_327 MO [oD k ad df] rfl rfl rfl ⟨by decide, by decide⟩ (Nat.le_of_ble_eq_true rfl) hcap dL_law_436 ?_
  refine k_istore (lv' := [(6, .int r), (5, .int (nI ip)), (0, .ref sc), (1, .ref aR), (2, .ref aM), (3, .ref ao), (4, .ref ad)]) E (by decide) rfl dL_law_439 ?_
  refine k_aload_n E 4 rfl rfl dL_law_441 ?_
  refine k_aload_n E 2 rfl rfl dL_law_442 ?_
  refine k_iload E 1 rfl dL_law_443 ?_
  refine k_iconst E (v := 1) (by decide) dL_law_445 ?_
  refine k_iadd E dL_law_446 ?_
  refine k_steq (st' := .int (nI (ip + 1)) :: [.ref sc, .ref aM]) (by rw [show nI ip + 1 = nI (ip + 1) from nI_add ip 1]; all_goals rfl) ?_
  refine k_sld E hX hbl hbA (by omega) hL hx1 dL_law_447 ?_
  refine k_callWV0 [.int x1] E hA hMo cf_X3_pass q_774 [] ((oL k ao lf' :: MR') ++ [oD k ad df]) rfl heMO rfl rfl rfl ⟨show f + 1 ≤ 21 by omega, show 8 + (9 + 11) + lo ≤ 10870 by omega⟩ (Nat.le_of_ble_eq_true rfl) ⟨show cells + 4 + 0 ≤ 603072 by omega, show slots + 24 + 0 ≤ 7219306 by omega⟩ dL_law_448 ?_
  refine k_istore (lv' := [(7, .int v), (6, .int r), (5, .int (nI ip)), (0, .ref sc), (1, .ref aR), (2, .ref aM), (3, .ref ao), (4, .ref ad)]) E (by decide) rfl dL_law_451 ?_
  refine k_aload_n E 5 rfl rfl dL_law_453 ?_
  refine k_callRV0 [] E hTh cf_X3_thrown q_739 [] ((oL k ao lf' :: MR') ++ [oD k ad df]) rfl heMO' rfl rfl rfl ⟨by decide, by decide⟩ (Nat.le_of_ble_eq_true rfl) ⟨show cells + 4 ≤ 603072 by omega, show slots + 24 ≤ 7219306 by omega⟩ dL_law_454 ?_
  refine k_iload E 1 rfl dL_law_457 ?_
  refine k_icmp_eq E (tgt := 464) (by decide) dL_law_459 (fun _ => ?_) (fun q => absurd rfl q)
  refine k_iload E 1 rfl dL_law_464 ?_
  refine k_if_ne E (tgt := 481) (by decide) dL_law_466 (fun hr0 => ?_) (fun hr0 => ?_)
  · skip
    refine k_goto E (tgt := 1730) (by decide) dL_law_481 ?_
    exact k_lv [2, 3, 4, 5, 6, 7] rfl K
  · skip
    refine k_aload_n E 6 rfl rfl dL_law_469 ?_
    refine k_iconst E (v := 0) (by decide) dL_law_470 ?_
    refine k_lald E (n := 1) (f := lf') MO'.length 3 (by simp) rfl (j := 0) rfl (by decide) (by decide) dL_law_471 ?_
    refine k_iload E 0 rfl dL_law_472 ?_
    refine k_i2l E (v := v.toInt64) rfl dL_law_474 ?_
    refine k_lcmp E dL_law_475 ?_
    refine k_if_eq E (tgt := 481) (by decide) dL_law_476 (fun _ => ?_) (fun q => absurd (by rw [hres hr0]; exact lg_self _) q)
    refine k_goto E (tgt := 1730) (by decide) dL_law_481 ?_
    exact k_lv [2, 3, 4, 5, 6, 7] rfl K
set_option maxRecDepth 100000 in
theorem g_day {p : Program} {e : Env} {s : State} {m : MethodId} {args : Array Value} {below : List Frame} {meth : Method} {c : Code} {Q : State → Prop} {A : Nat → Prop} {l : Launch} {D : va_G} {k : Nat → ClassId} {cells slots sc L ip aR aM ao ad : Nat} {xs : Nat → Int32} (E : kE p s m args c "MilkRoundLaw" cL_law 9 D (kTy k) (gW D A s.heap)) (hA : ∀ q, s.heap.size ≤ q → A q) (hZ : kZ A s s.heap) (hX : va_X sc L xs s s.heap) (hbl : sc < s.heap.size) (hbA : ¬ A sc) (hL : L ≤ 1536) (hip : ip + 3 ≤ L) {MR : va_W} {lf : Nat → Int64} {df : Nat → UInt64} {fs0 : List Value} (heMR : MR[0]? = some (aR, .inr (2, fs0))) {v : Int32} (hCl : mR l yX2_day cX2_day 1 (some .int) 0 0 D (kTy k) [.ref aR] MR (some (.int v))) {MO MO' : va_W} {fs1 fs2 : List Value} (heMO : MO[0]? = some (aM, .inr (3, fs1))) (heMO' : MO'[0]? = some (aM, .inr (3, fs2))) {f lo : Nat} (hf : f ≤ 16) (hlo : lo ≤ 800) (hMo : mW l yX3_day cX3_day 1 (some .int) f lo 0 0 D (kTy k) [.ref aM] MO (some (.int v)) MO') (hcap : cells + 4 ≤ 603072 ∧ slots + 24 ≤ 7219306) (K : kJ p l e (kRmc 21 10870 603072 7219306) s m args below meth c (gW D A s.heap) 9 cells slots Q (MO' ++ ((oL k ao lf :: MR) ++ [oD k ad df])) 1730 [(5, .int (nI ip)), (0, .ref sc), (1, .ref aR), (2, .ref aM), (3, .ref ao), (4, .ref ad)] []) : kJ p l e (kRmc 21 10870 603072 7219306) s m args below meth c (gW D A s.heap) 9 cells slots Q (MO ++ ((oL k ao lf :: MR) ++ [oD k ad df])) 484 [(5, .int (nI ip)), (0, .ref sc), (1, .ref aR), (2, .ref aM), (3, .ref ao), (4, .ref ad)] [] := by
  refine k_aload_n E 2 rfl rfl dL_law_484 ?_
  refine k_callRV0 [] E hCl cf_X2_day q_120 (MO ++ [oL k ao lf]) [oD k ad df] (by simp) heMR rfl rfl rfl ⟨by decide, by decide⟩ (Nat.le_of_ble_eq_true rfl) ⟨show cells ≤ 603072 by omega, show slots ≤ 7219306 by omega⟩ dL_law_485 ?_
  refine k_aload_n E 3 rfl rfl dL_law_488 ?_
  refine k_callWV0 [] E hA hMo cf_X3_day q_778 [] ((oL k ao lf :: MR) ++ [oD k ad df]) rfl heMO rfl rfl rfl ⟨show f + 1 ≤ 21 by omega, show 8 + (1 + 11) + lo ≤ 10870 by omega⟩ (Nat.le_of_ble_eq_true rfl) ⟨show cells + 0 ≤ 603072 by omega, show slots + 0 ≤ 7219306 by omega⟩ dL_law_489 ?_
  refine k_icmp_eq E (tgt := 1730) (by decide) dL_law_492 (fun _ => ?_) (fun q => absurd rfl q)
  exact k_lv [0, 1, 2, 3, 4, 5] rfl K
set_option maxRecDepth 100000 in
theorem g_addVat {p : Program} {e : Env} {s : State} {m : MethodId} {args : Array Value} {below : List Frame} {meth : Method} {c : Code} {Q : State → Prop} {A : Nat → Prop} {l : Launch} {D : va_G} {k : Nat → ClassId} {cells slots sc L ip aR aM ao ad : Nat} {xs : Nat → Int32} (E : kE p s m args c "MilkRoundLaw" cL_law 9 D (kTy k) (gW D A s.heap)) (hA : ∀ q, s.heap.size ≤ q → A q) (hZ : kZ A s s.heap) (hX : va_X sc L xs s s.heap) (hbl : sc < s.heap.size) (hbA : ¬ A sc) (hL : L ≤ 1536) (hip : ip + 3 ≤ L) (x1 : Int32) (hx1 : xs (ip + 1) = x1) {MR MR' : va_W} {lf lf' : Nat → Int64} {df : Nat → UInt64} {r : Int32} (hW : mH l yL_addVat cL_addVat 4 (some .int) [(0, 9, 12, 13), (0, 9, 15, 15)] 14 700 4 24 D (kTy k) [.ref aR, .int x1, .ref ao] (oL k ao lf :: MR) (.inl (some (.int r), oL k ao lf' :: MR'))) {MO MO' : va_W} {fs1 fs2 : List Value} (heMO : MO[0]? = some (aM, .inr (3, fs1))) (heMO' : MO'[0]? = some (aM, .inr (3, fs2))) {f lo : Nat} (hf : f ≤ 16) (hlo : lo ≤ 800) {v : Int32} (hMo : mW l yX3_addVat cX3_addVat 2 (some .int) f lo 0 0 D (kTy k) [.ref aM, .int x1] MO (some (.int v)) MO') (hTh : mR l yX3_thrown cX3_thrown 1 (some .int) 0 0 D (kTy k) [.ref aM] MO' (some (.int r))) (hres : r = 0 → lf' 0 = v.toInt64) (hcap : cells + 4 ≤ 603072 ∧ slots + 24 ≤ 7219306) (K : kJ p l e (kRmc 21 10870 603072 7219306) s m args below meth c (gW D A s.heap) 9 (cells + 4) (slots + 24) Q (MO' ++ ((oL k ao lf' :: MR') ++ [oD k ad df])) 1730 [(5, .int (nI ip)), (0, .ref sc), (1, .ref aR), (2, .ref aM), (3, .ref ao), (4, .ref ad)] []) : kJ p l e (kRmc 21 10870 603072 7219306) s m args below meth c (gW D A s.heap) 9 cells slots Q (MO ++ ((oL k ao lf :: MR) ++ [oD k ad df])) 497 [(5, .int (nI ip)), (0, .ref sc), (1, .ref aR), (2, .ref aM), (3, .ref ao), (4, .ref ad)] [] := by
  refine k_aload_n E 2 rfl rfl dL_law_497 ?_
  refine k_aload_n E 1 rfl rfl dL_law_498 ?_
  refine k_iload E 0 rfl dL_law_499 ?_
  refine k_iconst E (v := 1) (by decide) dL_law_501 ?_
  refine k_iadd E dL_law_502 ?_
  refine k_steq (st' := .int (nI (ip + 1)) :: [.ref sc, .ref aR]) (by rw [show nI ip + 1 = nI (ip + 1) from nI_add ip 1]; all_goals rfl) ?_
  refine k_sld E hX hbl hbA (by omega) hL hx1 dL_law_503 ?_
  refine k_aload_n E 4 rfl rfl dL_law_504 ?_
  refine k_callXS [.ref aR, .int x1, .ref ao] E hA hZ hW cf_L_addVat q_343 MO [oD k ad df] rfl rfl rfl ⟨by decide, by decide⟩ (Nat.le_of_ble_eq_true rfl) hcap dL_law_505 ?_
  refine k_istore (lv' := [(6, .int r), (5, .int (nI ip)), (0, .ref sc), (1, .ref aR), (2, .ref aM), (3, .ref ao), (4, .ref ad)]) E (by decide) rfl dL_law_508 ?_
  refine k_aload_n E 4 rfl rfl dL_law_510 ?_
  refine k_aload_n E 2 rfl rfl dL_law_511 ?_
  refine k_iload E 1 rfl dL_law_512 ?_
  refine k_iconst E (v := 1) (by decide) dL_law_514 ?_
  refine k_iadd E dL_law_515 ?_
  refine k_steq (st' := .int (nI (ip + 1)) :: [.ref sc, .ref aM]) (by rw [show nI ip + 1 = nI (ip + 1) from nI_add ip 1]; all_goals rfl) ?_
  refine k_sld E hX hbl hbA (by omega) hL hx1 dL_law_516 ?_
  refine k_callWV0 [.int x1] E hA hMo cf_X3_addVat q_782 [] ((oL k ao lf' :: MR') ++ [oD k ad df]) rfl heMO rfl rfl rfl ⟨show f + 1 ≤ 21 by omega, show 8 + (2 + 11) + lo ≤ 10870 by omega⟩ (Nat.le_of_ble_eq_true rfl) ⟨show cells + 4 + 0 ≤ 603072 by omega, show slots + 24 + 0 ≤ 7219306 by omega⟩ dL_law_517 ?_
  refine k_istore (lv' := [(7, .int v), (6, .int r), (5, .int (nI ip)), (0, .ref sc), (1, .ref aR), (2, .ref aM), (3, .ref ao), (4, .ref ad)]) E (by decide) rfl dL_law_520 ?_
  refine k_aload_n E 5 rfl rfl dL_law_522 ?_
  refine k_callRV0 [] E hTh cf_X3_thrown q_739 [] ((oL k ao lf' :: MR') ++ [oD k ad df]) rfl heMO' rfl rfl rfl ⟨by decide, by decide⟩ (Nat.le_of_ble_eq_true rfl) ⟨show cells + 4 ≤ 603072 by omega, show slots + 24 ≤ 7219306 by omega⟩ dL_law_523 ?_
  refine k_iload E 1 rfl dL_law_526 ?_
  refine k_icmp_eq E (tgt := 533) (by decide) dL_law_528 (fun _ => ?_) (fun q => absurd rfl q)
  refine k_iload E 1 rfl dL_law_533 ?_
  refine k_if_ne E (tgt := 550) (by decide) dL_law_535 (fun hr0 => ?_) (fun hr0 => ?_)
  · skip
    refine k_goto E (tgt := 1730) (by decide) dL_law_550 ?_
    exact k_lv [2, 3, 4, 5, 6, 7] rfl K
  · skip
    refine k_aload_n E 6 rfl rfl dL_law_538 ?_
    refine k_iconst E (v := 0) (by decide) dL_law_539 ?_
    refine k_lald E (n := 1) (f := lf') MO'.length 3 (by simp) rfl (j := 0) rfl (by decide) (by decide) dL_law_540 ?_
    refine k_iload E 0 rfl dL_law_541 ?_
    refine k_i2l E (v := v.toInt64) rfl dL_law_543 ?_
    refine k_lcmp E dL_law_544 ?_
    refine k_if_eq E (tgt := 550) (by decide) dL_law_545 (fun _ => ?_) (fun q => absurd (by rw [hres hr0]; exact lg_self _) q)
    refine k_goto E (tgt := 1730) (by decide) dL_law_550 ?_
    exact k_lv [2, 3, 4, 5, 6, 7] rfl K
set_option maxRecDepth 100000 in
theorem g_beginRound {p : Program} {e : Env} {s : State} {m : MethodId} {args : Array Value} {below : List Frame} {meth : Method} {c : Code} {Q : State → Prop} {A : Nat → Prop} {l : Launch} {D : va_G} {k : Nat → ClassId} {cells slots sc L ip aR aM ao ad : Nat} {xs : Nat → Int32} (E : kE p s m args c "MilkRoundLaw" cL_law 9 D (kTy k) (gW D A s.heap)) (hA : ∀ q, s.heap.size ≤ q → A q) (hZ : kZ A s s.heap) (hX : va_X sc L xs s s.heap) (hbl : sc < s.heap.size) (hbA : ¬ A sc) (hL : L ≤ 1536) (hip : ip + 3 ≤ L)  {MR MR' : va_W} {lf lf' : Nat → Int64} {df : Nat → UInt64} {r : Int32} (hW : mH l yL_beginRound cL_beginRound 3 (some .int) [(0, 8, 11, 15)] 14 700 4 24 D (kTy k) [.ref aR, .ref ao] (oL k ao lf :: MR) (.inl (some (.int r), oL k ao lf' :: MR'))) {MO MO' : va_W} {fs1 fs2 : List Value} (heMO : MO[0]? = some (aM, .inr (3, fs1))) (heMO' : MO'[0]? = some (aM, .inr (3, fs2))) {f lo : Nat} (hf : f ≤ 16) (hlo : lo ≤ 800) {v : Int32} (hMo : mW l yX3_beginRound cX3_beginRound 2 (some .int) f lo 0 0 D (kTy k) [.ref aM] MO (some (.int v)) MO') (hTh : mR l yX3_thrown cX3_thrown 1 (some .int) 0 0 D (kTy k) [.ref aM] MO' (some (.int r))) (hres : r = 0 → lf' 0 = v.toInt64) (hcap : cells + 4 ≤ 603072 ∧ slots + 24 ≤ 7219306) (K : kJ p l e (kRmc 21 10870 603072 7219306) s m args below meth c (gW D A s.heap) 9 (cells + 4) (slots + 24) Q (MO' ++ ((oL k ao lf' :: MR') ++ [oD k ad df])) 1730 [(5, .int (nI ip)), (0, .ref sc), (1, .ref aR), (2, .ref aM), (3, .ref ao), (4, .ref ad)] []) : kJ p l e (kRmc 21 10870 603072 7219306) s m args below meth c (gW D A s.heap) 9 cells slots Q (MO ++ ((oL k ao lf :: MR) ++ [oD k ad df])) 553 [(5, .int (nI ip)), (0, .ref sc), (1, .ref aR), (2, .ref aM), (3, .ref ao), (4, .ref ad)] [] := by
  refine k_aload_n E 2 rfl rfl dL_law_553 ?_
  refine k_aload_n E 4 rfl rfl dL_law_554 ?_
  refine k_callXS [.ref aR, .ref ao] E hA hZ hW cf_L_beginRound q_352 MO [oD k ad df] rfl rfl rfl ⟨by decide, by decide⟩ (Nat.le_of_ble_eq_true rfl) hcap dL_law_555 ?_
  refine k_istore (lv' := [(6, .int r), (5, .int (nI ip)), (0, .ref sc), (1, .ref aR), (2, .ref aM), (3, .ref ao), (4, .ref ad)]) E (by decide) rfl dL_law_558 ?_
  refine k_aload_n E 4 rfl rfl dL_law_560 ?_
  refine k_callWV0 [] E hA hMo cf_X3_beginRound q_788 [] ((oL k ao lf' :: MR') ++ [oD k ad df]) rfl heMO rfl rfl rfl ⟨show f + 1 ≤ 21 by omega, show 8 + (2 + 11) + lo ≤ 10870 by omega⟩ (Nat.le_of_ble_eq_true rfl) ⟨show cells + 4 + 0 ≤ 603072 by omega, show slots + 24 + 0 ≤ 7219306 by omega⟩ dL_law_561 ?_
  refine k_istore (lv' := [(7, .int v), (6, .int r), (5, .int (nI ip)), (0, .ref sc), (1, .ref aR), (2, .ref aM), (3, .ref ao), (4, .ref ad)]) E (by decide) rfl dL_law_564 ?_
  refine k_aload_n E 5 rfl rfl dL_law_566 ?_
  refine k_callRV0 [] E hTh cf_X3_thrown q_739 [] ((oL k ao lf' :: MR') ++ [oD k ad df]) rfl heMO' rfl rfl rfl ⟨by decide, by decide⟩ (Nat.le_of_ble_eq_true rfl) ⟨show cells + 4 ≤ 603072 by omega, show slots + 24 ≤ 7219306 by omega⟩ dL_law_567 ?_
  refine k_iload E 1 rfl dL_law_570 ?_
  refine k_icmp_eq E (tgt := 577) (by decide) dL_law_572 (fun _ => ?_) (fun q => absurd rfl q)
  refine k_iload E 1 rfl dL_law_577 ?_
  refine k_if_ne E (tgt := 594) (by decide) dL_law_579 (fun hr0 => ?_) (fun hr0 => ?_)
  · skip
    refine k_goto E (tgt := 1730) (by decide) dL_law_594 ?_
    exact k_lv [2, 3, 4, 5, 6, 7] rfl K
  · skip
    refine k_aload_n E 6 rfl rfl dL_law_582 ?_
    refine k_iconst E (v := 0) (by decide) dL_law_583 ?_
    refine k_lald E (n := 1) (f := lf') MO'.length 3 (by simp) rfl (j := 0) rfl (by decide) (by decide) dL_law_584 ?_
    refine k_iload E 0 rfl dL_law_585 ?_
    refine k_i2l E (v := v.toInt64) rfl dL_law_587 ?_
    refine k_lcmp E dL_law_588 ?_
    refine k_if_eq E (tgt := 594) (by decide) dL_law_589 (fun _ => ?_) (fun q => absurd (by rw [hres hr0]; exact lg_self _) q)
    refine k_goto E (tgt := 1730) (by decide) dL_law_594 ?_
    exact k_lv [2, 3, 4, 5, 6, 7] rfl K
set_option maxRecDepth 100000 in
theorem g_visit {p : Program} {e : Env} {s : State} {m : MethodId} {args : Array Value} {below : List Frame} {meth : Method} {c : Code} {Q : State → Prop} {A : Nat → Prop} {l : Launch} {D : va_G} {k : Nat → ClassId} {cells slots sc L ip aR aM ao ad : Nat} {xs : Nat → Int32} (E : kE p s m args c "MilkRoundLaw" cL_law 9 D (kTy k) (gW D A s.heap)) (hA : ∀ q, s.heap.size ≤ q → A q) (hZ : kZ A s s.heap) (hX : va_X sc L xs s s.heap) (hbl : sc < s.heap.size) (hbA : ¬ A sc) (hL : L ≤ 1536) (hip : ip + 3 ≤ L) (x1 : Int32) (hx1 : xs (ip + 1) = x1) {MR MR' : va_W} {lf lf' : Nat → Int64} {df : Nat → UInt64} {r : Int32} (hW : mH l yL_visit cL_visit 4 (some .int) [(0, 9, 12, 21), (0, 9, 15, 15)] 14 700 4 24 D (kTy k) [.ref aR, .int x1, .ref ao] (oL k ao lf :: MR) (.inl (some (.int r), oL k ao lf' :: MR'))) {MO MO' : va_W} {fs1 fs2 : List Value} (heMO : MO[0]? = some (aM, .inr (3, fs1))) (heMO' : MO'[0]? = some (aM, .inr (3, fs2))) {f lo : Nat} (hf : f ≤ 16) (hlo : lo ≤ 800) {v : Int32} (hMo : mW l yX3_visit cX3_visit 4 (some .int) f lo 0 0 D (kTy k) [.ref aM, .int x1] MO (some (.int v)) MO') (hTh : mR l yX3_thrown cX3_thrown 1 (some .int) 0 0 D (kTy k) [.ref aM] MO' (some (.int r))) (hres : r = 0 → lf' 0 = v.toInt64) (hcap : cells + 4 ≤ 603072 ∧ slots + 24 ≤ 7219306) (K : kJ p l e (kRmc 21 10870 603072 7219306) s m args below meth c (gW D A s.heap) 9 (cells + 4) (slots + 24) Q (MO' ++ ((oL k ao lf' :: MR') ++ [oD k ad df])) 1730 [(5, .int (nI ip)), (0, .ref sc), (1, .ref aR), (2, .ref aM), (3, .ref ao), (4, .ref ad)] []) : kJ p l e (kRmc 21 10870 603072 7219306) s m args below meth c (gW D A s.heap) 9 cells slots Q (MO ++ ((oL k ao lf :: MR) ++ [oD k ad df])) 597 [(5, .int (nI ip)), (0, .ref sc), (1, .ref aR), (2, .ref aM), (3, .ref ao), (4, .ref ad)] [] := by
  refine k_aload_n E 2 rfl rfl dL_law_597 ?_
  refine k_aload_n E 1 rfl rfl dL_law_598 ?_
  refine k_iload E 0 rfl dL_law_599 ?_
  refine k_iconst E (v := 1) (by decide) dL_law_601 ?_
  refine k_iadd E dL_law_602 ?_
  refine k_steq (st' := .int (nI (ip + 1)) :: [.ref sc, .ref aR]) (by rw [show nI ip + 1 = nI (ip + 1) from nI_add ip 1]; all_goals rfl) ?_
  refine k_sld E hX hbl hbA (by omega) hL hx1 dL_law_603 ?_
  refine k_aload_n E 4 rfl rfl dL_law_604 ?_
  refine k_callXS [.ref aR, .int x1, .ref ao] E hA hZ hW cf_L_visit q_360 MO [oD k ad df] rfl rfl rfl ⟨by decide, by decide⟩ (Nat.le_of_ble_eq_true rfl) hcap dL_law_605 ?_
  refine k_istore (lv' := [(6, .int r), (5, .int (nI ip)), (0, .ref sc), (1, .ref aR), (2, .ref aM), (3, .ref ao), (4, .ref ad)]) E (by decide) rfl dL_law_608 ?_
  refine k_aload_n E 4 rfl rfl dL_law_610 ?_
  refine k_aload_n E 2 rfl rfl dL_law_611 ?_
  refine k_iload E 1 rfl dL_law_612 ?_
  refine k_iconst E (v := 1) (by decide) dL_law_614 ?_
  refine k_iadd E dL_law_615 ?_
  refine k_steq (st' := .int (nI (ip + 1)) :: [.ref sc, .ref aM]) (by rw [show nI ip + 1 = nI (ip + 1) from nI_add ip 1]; all_goals rfl) ?_
  refine k_sld E hX hbl hbA (by omega) hL hx1 dL_law_616 ?_
  refine k_callWV0 [.int x1] E hA hMo cf_X3_visit q_792 [] ((oL k ao lf' :: MR') ++ [oD k ad df]) rfl heMO rfl rfl rfl ⟨show f + 1 ≤ 21 by omega, show 8 + (4 + 11) + lo ≤ 10870 by omega⟩ (Nat.le_of_ble_eq_true rfl) ⟨show cells + 4 + 0 ≤ 603072 by omega, show slots + 24 + 0 ≤ 7219306 by omega⟩ dL_law_617 ?_
  refine k_istore (lv' := [(7, .int v), (6, .int r), (5, .int (nI ip)), (0, .ref sc), (1, .ref aR), (2, .ref aM), (3, .ref ao), (4, .ref ad)]) E (by decide) rfl dL_law_620 ?_
  refine k_aload_n E 5 rfl rfl dL_law_622 ?_
  refine k_callRV0 [] E hTh cf_X3_thrown q_739 [] ((oL k ao lf' :: MR') ++ [oD k ad df]) rfl heMO' rfl rfl rfl ⟨by decide, by decide⟩ (Nat.le_of_ble_eq_true rfl) ⟨show cells + 4 ≤ 603072 by omega, show slots + 24 ≤ 7219306 by omega⟩ dL_law_623 ?_
  refine k_iload E 1 rfl dL_law_626 ?_
  refine k_icmp_eq E (tgt := 633) (by decide) dL_law_628 (fun _ => ?_) (fun q => absurd rfl q)
  refine k_iload E 1 rfl dL_law_633 ?_
  refine k_if_ne E (tgt := 650) (by decide) dL_law_635 (fun hr0 => ?_) (fun hr0 => ?_)
  · skip
    refine k_goto E (tgt := 1730) (by decide) dL_law_650 ?_
    exact k_lv [2, 3, 4, 5, 6, 7] rfl K
  · skip
    refine k_aload_n E 6 rfl rfl dL_law_638 ?_
    refine k_iconst E (v := 0) (by decide) dL_law_639 ?_
    refine k_lald E (n := 1) (f := lf') MO'.length 3 (by simp) rfl (j := 0) rfl (by decide) (by decide) dL_law_640 ?_
    refine k_iload E 0 rfl dL_law_641 ?_
    refine k_i2l E (v := v.toInt64) rfl dL_law_643 ?_
    refine k_lcmp E dL_law_644 ?_
    refine k_if_eq E (tgt := 650) (by decide) dL_law_645 (fun _ => ?_) (fun q => absurd (by rw [hres hr0]; exact lg_self _) q)
    refine k_goto E (tgt := 1730) (by decide) dL_law_650 ?_
    exact k_lv [2, 3, 4, 5, 6, 7] rfl K
set_option maxRecDepth 100000 in
theorem g_endRound {p : Program} {e : Env} {s : State} {m : MethodId} {args : Array Value} {below : List Frame} {meth : Method} {c : Code} {Q : State → Prop} {A : Nat → Prop} {l : Launch} {D : va_G} {k : Nat → ClassId} {cells slots sc L ip aR aM ao ad : Nat} {xs : Nat → Int32} (E : kE p s m args c "MilkRoundLaw" cL_law 9 D (kTy k) (gW D A s.heap)) (hA : ∀ q, s.heap.size ≤ q → A q) (hZ : kZ A s s.heap) (hX : va_X sc L xs s s.heap) (hbl : sc < s.heap.size) (hbA : ¬ A sc) (hL : L ≤ 1536) (hip : ip + 3 ≤ L) (x1 : Int32) (hx1 : xs (ip + 1) = x1) {MR MR' : va_W} {lf lf' : Nat → Int64} {df : Nat → UInt64} {r : Int32} (hW : mH l yL_endRound cL_endRound 4 (some .int) [(0, 9, 12, 21), (0, 9, 15, 15), (0, 9, 18, 45)] 14 700 4 24 D (kTy k) [.ref aR, .int x1, .ref ao] (oL k ao lf :: MR) (.inl (some (.int r), oL k ao lf' :: MR'))) {MO MO' : va_W} {fs1 fs2 : List Value} (heMO : MO[0]? = some (aM, .inr (3, fs1))) (heMO' : MO'[0]? = some (aM, .inr (3, fs2))) {f lo : Nat} (hf : f ≤ 16) (hlo : lo ≤ 800) {v : Int32} (hMo : mW l yX3_endRound cX3_endRound 4 (some .int) f lo 0 0 D (kTy k) [.ref aM, .int x1] MO (some (.int v)) MO') (hTh : mR l yX3_thrown cX3_thrown 1 (some .int) 0 0 D (kTy k) [.ref aM] MO' (some (.int r))) (hres : r = 0 → lf' 0 = v.toInt64) (hcap : cells + 4 ≤ 603072 ∧ slots + 24 ≤ 7219306) (K : kJ p l e (kRmc 21 10870 603072 7219306) s m args below meth c (gW D A s.heap) 9 (cells + 4) (slots + 24) Q (MO' ++ ((oL k ao lf' :: MR') ++ [oD k ad df])) 1730 [(5, .int (nI ip)), (0, .ref sc), (1, .ref aR), (2, .ref aM), (3, .ref ao), (4, .ref ad)] []) : kJ p l e (kRmc 21 10870 603072 7219306) s m args below meth c (gW D A s.heap) 9 cells slots Q (MO ++ ((oL k ao lf :: MR) ++ [oD k ad df])) 653 [(5, .int (nI ip)), (0, .ref sc), (1, .ref aR), (2, .ref aM), (3, .ref ao), (4, .ref ad)] [] := by
  refine k_aload_n E 2 rfl rfl dL_law_653 ?_
  refine k_aload_n E 1 rfl rfl dL_law_654 ?_
  refine k_iload E 0 rfl dL_law_655 ?_
  refine k_iconst E (v := 1) (by decide) dL_law_657 ?_
  refine k_iadd E dL_law_658 ?_
  refine k_steq (st' := .int (nI (ip + 1)) :: [.ref sc, .ref aR]) (by rw [show nI ip + 1 = nI (ip + 1) from nI_add ip 1]; all_goals rfl) ?_
  refine k_sld E hX hbl hbA (by omega) hL hx1 dL_law_659 ?_
  refine k_aload_n E 4 rfl rfl dL_law_660 ?_
  refine k_callXS [.ref aR, .int x1, .ref ao] E hA hZ hW cf_L_endRound q_379 MO [oD k ad df] rfl rfl rfl ⟨by decide, by decide⟩ (Nat.le_of_ble_eq_true rfl) hcap dL_law_661 ?_
  refine k_istore (lv' := [(6, .int r), (5, .int (nI ip)), (0, .ref sc), (1, .ref aR), (2, .ref aM), (3, .ref ao), (4, .ref ad)]) E (by decide) rfl dL_law_664 ?_
  refine k_aload_n E 4 rfl rfl dL_law_666 ?_
  refine k_aload_n E 2 rfl rfl dL_law_667 ?_
  refine k_iload E 1 rfl dL_law_668 ?_
  refine k_iconst E (v := 1) (by decide) dL_law_670 ?_
  refine k_iadd E dL_law_671 ?_
  refine k_steq (st' := .int (nI (ip + 1)) :: [.ref sc, .ref aM]) (by rw [show nI ip + 1 = nI (ip + 1) from nI_add ip 1]; all_goals rfl) ?_
  refine k_sld E hX hbl hbA (by omega) hL hx1 dL_law_672 ?_
  refine k_callWV0 [.int x1] E hA hMo cf_X3_endRound q_796 [] ((oL k ao lf' :: MR') ++ [oD k ad df]) rfl heMO rfl rfl rfl ⟨show f + 1 ≤ 21 by omega, show 8 + (4 + 11) + lo ≤ 10870 by omega⟩ (Nat.le_of_ble_eq_true rfl) ⟨show cells + 4 + 0 ≤ 603072 by omega, show slots + 24 + 0 ≤ 7219306 by omega⟩ dL_law_673 ?_
  refine k_istore (lv' := [(7, .int v), (6, .int r), (5, .int (nI ip)), (0, .ref sc), (1, .ref aR), (2, .ref aM), (3, .ref ao), (4, .ref ad)]) E (by decide) rfl dL_law_676 ?_
  refine k_aload_n E 5 rfl rfl dL_law_678 ?_
  refine k_callRV0 [] E hTh cf_X3_thrown q_739 [] ((oL k ao lf' :: MR') ++ [oD k ad df]) rfl heMO' rfl rfl rfl ⟨by decide, by decide⟩ (Nat.le_of_ble_eq_true rfl) ⟨show cells + 4 ≤ 603072 by omega, show slots + 24 ≤ 7219306 by omega⟩ dL_law_679 ?_
  refine k_iload E 1 rfl dL_law_682 ?_
  refine k_icmp_eq E (tgt := 689) (by decide) dL_law_684 (fun _ => ?_) (fun q => absurd rfl q)
  refine k_iload E 1 rfl dL_law_689 ?_
  refine k_if_ne E (tgt := 706) (by decide) dL_law_691 (fun hr0 => ?_) (fun hr0 => ?_)
  · skip
    refine k_goto E (tgt := 1730) (by decide) dL_law_706 ?_
    exact k_lv [2, 3, 4, 5, 6, 7] rfl K
  · skip
    refine k_aload_n E 6 rfl rfl dL_law_694 ?_
    refine k_iconst E (v := 0) (by decide) dL_law_695 ?_
    refine k_lald E (n := 1) (f := lf') MO'.length 3 (by simp) rfl (j := 0) rfl (by decide) (by decide) dL_law_696 ?_
    refine k_iload E 0 rfl dL_law_697 ?_
    refine k_i2l E (v := v.toInt64) rfl dL_law_699 ?_
    refine k_lcmp E dL_law_700 ?_
    refine k_if_eq E (tgt := 706) (by decide) dL_law_701 (fun _ => ?_) (fun q => absurd (by rw [hres hr0]; exact lg_self _) q)
    refine k_goto E (tgt := 1730) (by decide) dL_law_706 ?_
    exact k_lv [2, 3, 4, 5, 6, 7] rfl K
set_option maxRecDepth 100000 in
theorem g_inTanker {p : Program} {e : Env} {s : State} {m : MethodId} {args : Array Value} {below : List Frame} {meth : Method} {c : Code} {Q : State → Prop} {A : Nat → Prop} {l : Launch} {D : va_G} {k : Nat → ClassId} {cells slots sc L ip aR aM ao ad : Nat} {xs : Nat → Int32} (E : kE p s m args c "MilkRoundLaw" cL_law 9 D (kTy k) (gW D A s.heap)) (hA : ∀ q, s.heap.size ≤ q → A q) (hZ : kZ A s s.heap) (hX : va_X sc L xs s s.heap) (hbl : sc < s.heap.size) (hbA : ¬ A sc) (hL : L ≤ 1536) (hip : ip + 3 ≤ L) {MR : va_W} {lf : Nat → Int64} {df : Nat → UInt64} {fs0 : List Value} (heMR : MR[0]? = some (aR, .inr (2, fs0))) {v : Int32} (hCl : mR l yX2_inTanker cX2_inTanker 1 (some .int) 2 47 D (kTy k) [.ref aR] MR (some (.int v))) {MO MO' : va_W} {fs1 fs2 : List Value} (heMO : MO[0]? = some (aM, .inr (3, fs1))) (heMO' : MO'[0]? = some (aM, .inr (3, fs2))) {f lo : Nat} (hf : f ≤ 16) (hlo : lo ≤ 800) (hMo : mW l yX3_inTanker cX3_inTanker 1 (some .int) f lo 0 0 D (kTy k) [.ref aM] MO (some (.int v)) MO') (hcap : cells + 4 ≤ 603072 ∧ slots + 24 ≤ 7219306) (K : kJ p l e (kRmc 21 10870 603072 7219306) s m args below meth c (gW D A s.heap) 9 cells slots Q (MO' ++ ((oL k ao lf :: MR) ++ [oD k ad df])) 1730 [(5, .int (nI ip)), (0, .ref sc), (1, .ref aR), (2, .ref aM), (3, .ref ao), (4, .ref ad)] []) : kJ p l e (kRmc 21 10870 603072 7219306) s m args below meth c (gW D A s.heap) 9 cells slots Q (MO ++ ((oL k ao lf :: MR) ++ [oD k ad df])) 709 [(5, .int (nI ip)), (0, .ref sc), (1, .ref aR), (2, .ref aM), (3, .ref ao), (4, .ref ad)] [] := by
  refine k_aload_n E 2 rfl rfl dL_law_709 ?_
  refine k_callRV0 [] E hCl cf_X2_inTanker q_124 (MO ++ [oL k ao lf]) [oD k ad df] (by simp) heMR rfl rfl rfl ⟨by decide, by decide⟩ (Nat.le_of_ble_eq_true rfl) ⟨show cells ≤ 603072 by omega, show slots ≤ 7219306 by omega⟩ dL_law_710 ?_
  refine k_aload_n E 3 rfl rfl dL_law_713 ?_
  refine k_callWV0 [] E hA hMo cf_X3_inTanker q_808 [] ((oL k ao lf :: MR) ++ [oD k ad df]) rfl heMO rfl rfl rfl ⟨show f + 1 ≤ 21 by omega, show 8 + (1 + 11) + lo ≤ 10870 by omega⟩ (Nat.le_of_ble_eq_true rfl) ⟨show cells + 0 ≤ 603072 by omega, show slots + 0 ≤ 7219306 by omega⟩ dL_law_714 ?_
  refine k_icmp_eq E (tgt := 1730) (by decide) dL_law_717 (fun _ => ?_) (fun q => absurd rfl q)
  exact k_lv [0, 1, 2, 3, 4, 5] rfl K
set_option maxRecDepth 100000 in
theorem g_inVat {p : Program} {e : Env} {s : State} {m : MethodId} {args : Array Value} {below : List Frame} {meth : Method} {c : Code} {Q : State → Prop} {A : Nat → Prop} {l : Launch} {D : va_G} {k : Nat → ClassId} {cells slots sc L ip aR aM ao ad : Nat} {xs : Nat → Int32} (E : kE p s m args c "MilkRoundLaw" cL_law 9 D (kTy k) (gW D A s.heap)) (hA : ∀ q, s.heap.size ≤ q → A q) (hZ : kZ A s s.heap) (hX : va_X sc L xs s s.heap) (hbl : sc < s.heap.size) (hbA : ¬ A sc) (hL : L ≤ 1536) (hip : ip + 3 ≤ L) (x1 : Int32) (hx1 : xs (ip + 1) = x1) {MR MR' : va_W} {lf lf' : Nat → Int64} {df : Nat → UInt64} {r : Int32} (hW : mH l yL_inVat cL_inVat 4 (some .int) [(0, 9, 12, 21)] 14 700 4 24 D (kTy k) [.ref aR, .int x1, .ref ao] (oL k ao lf :: MR) (.inl (some (.int r), oL k ao lf' :: MR'))) {MO MO' : va_W} {fs1 fs2 : List Value} (heMO : MO[0]? = some (aM, .inr (3, fs1))) (heMO' : MO'[0]? = some (aM, .inr (3, fs2))) {f lo : Nat} (hf : f ≤ 16) (hlo : lo ≤ 800) {v : Int32} (hMo : mW l yX3_inVat cX3_inVat 2 (some .int) f lo 0 0 D (kTy k) [.ref aM, .int x1] MO (some (.int v)) MO') (hTh : mR l yX3_thrown cX3_thrown 1 (some .int) 0 0 D (kTy k) [.ref aM] MO' (some (.int r))) (hres : r = 0 → lf' 0 = v.toInt64) (hcap : cells + 4 ≤ 603072 ∧ slots + 24 ≤ 7219306) (K : kJ p l e (kRmc 21 10870 603072 7219306) s m args below meth c (gW D A s.heap) 9 (cells + 4) (slots + 24) Q (MO' ++ ((oL k ao lf' :: MR') ++ [oD k ad df])) 1730 [(5, .int (nI ip)), (0, .ref sc), (1, .ref aR), (2, .ref aM), (3, .ref ao), (4, .ref ad)] []) : kJ p l e (kRmc 21 10870 603072 7219306) s m args below meth c (gW D A s.heap) 9 cells slots Q (MO ++ ((oL k ao lf :: MR) ++ [oD k ad df])) 722 [(5, .int (nI ip)), (0, .ref sc), (1, .ref aR), (2, .ref aM), (3, .ref ao), (4, .ref ad)] [] := by
  refine k_aload_n E 2 rfl rfl dL_law_722 ?_
  refine k_aload_n E 1 rfl rfl dL_law_723 ?_
  refine k_iload E 0 rfl dL_law_724 ?_
  refine k_iconst E (v := 1) (by decide) dL_law_726 ?_
  refine k_iadd E dL_law_727 ?_
  refine k_steq (st' := .int (nI (ip + 1)) :: [.ref sc, .ref aR]) (by rw [show nI ip + 1 = nI (ip + 1) from nI_add ip 1]; all_goals rfl) ?_
  refine k_sld E hX hbl hbA (by omega) hL hx1 dL_law_728 ?_
  refine k_aload_n E 4 rfl rfl dL_law_729 ?_
  refine k_callXS [.ref aR, .int x1, .ref ao] E hA hZ hW cf_L_inVat q_425 MO [oD k ad df] rfl rfl rfl ⟨by decide, by decide⟩ (Nat.le_of_ble_eq_true rfl) hcap dL_law_730 ?_
  refine k_istore (lv' := [(6, .int r), (5, .int (nI ip)), (0, .ref sc), (1, .ref aR), (2, .ref aM), (3, .ref ao), (4, .ref ad)]) E (by decide) rfl dL_law_733 ?_
  refine k_aload_n E 4 rfl rfl dL_law_735 ?_
  refine k_aload_n E 2 rfl rfl dL_law_736 ?_
  refine k_iload E 1 rfl dL_law_737 ?_
  refine k_iconst E (v := 1) (by decide) dL_law_739 ?_
  refine k_iadd E dL_law_740 ?_
  refine k_steq (st' := .int (nI (ip + 1)) :: [.ref sc, .ref aM]) (by rw [show nI ip + 1 = nI (ip + 1) from nI_add ip 1]; all_goals rfl) ?_
  refine k_sld E hX hbl hbA (by omega) hL hx1 dL_law_741 ?_
  refine k_callWV0 [.int x1] E hA hMo cf_X3_inVat q_812 [] ((oL k ao lf' :: MR') ++ [oD k ad df]) rfl heMO rfl rfl rfl ⟨show f + 1 ≤ 21 by omega, show 8 + (2 + 11) + lo ≤ 10870 by omega⟩ (Nat.le_of_ble_eq_true rfl) ⟨show cells + 4 + 0 ≤ 603072 by omega, show slots + 24 + 0 ≤ 7219306 by omega⟩ dL_law_742 ?_
  refine k_istore (lv' := [(7, .int v), (6, .int r), (5, .int (nI ip)), (0, .ref sc), (1, .ref aR), (2, .ref aM), (3, .ref ao), (4, .ref ad)]) E (by decide) rfl dL_law_745 ?_
  refine k_aload_n E 5 rfl rfl dL_law_747 ?_
  refine k_callRV0 [] E hTh cf_X3_thrown q_739 [] ((oL k ao lf' :: MR') ++ [oD k ad df]) rfl heMO' rfl rfl rfl ⟨by decide, by decide⟩ (Nat.le_of_ble_eq_true rfl) ⟨show cells + 4 ≤ 603072 by omega, show slots + 24 ≤ 7219306 by omega⟩ dL_law_748 ?_
  refine k_iload E 1 rfl dL_law_751 ?_
  refine k_icmp_eq E (tgt := 758) (by decide) dL_law_753 (fun _ => ?_) (fun q => absurd rfl q)
  refine k_iload E 1 rfl dL_law_758 ?_
  refine k_if_ne E (tgt := 775) (by decide) dL_law_760 (fun hr0 => ?_) (fun hr0 => ?_)
  · skip
    refine k_goto E (tgt := 1730) (by decide) dL_law_775 ?_
    exact k_lv [2, 3, 4, 5, 6, 7] rfl K
  · skip
    refine k_aload_n E 6 rfl rfl dL_law_763 ?_
    refine k_iconst E (v := 0) (by decide) dL_law_764 ?_
    refine k_lald E (n := 1) (f := lf') MO'.length 3 (by simp) rfl (j := 0) rfl (by decide) (by decide) dL_law_765 ?_
    refine k_iload E 0 rfl dL_law_766 ?_
    refine k_i2l E (v := v.toInt64) rfl dL_law_768 ?_
    refine k_lcmp E dL_law_769 ?_
    refine k_if_eq E (tgt := 775) (by decide) dL_law_770 (fun _ => ?_) (fun q => absurd (by rw [hres hr0]; exact lg_self _) q)
    refine k_goto E (tgt := 1730) (by decide) dL_law_775 ?_
    exact k_lv [2, 3, 4, 5, 6, 7] rfl K
set_option maxRecDepth 100000 in
theorem g_bestVat {p : Program} {e : Env} {s : State} {m : MethodId} {args : Array Value} {below : List Frame} {meth : Method} {c : Code} {Q : State → Prop} {A : Nat → Prop} {l : Launch} {D : va_G} {k : Nat → ClassId} {cells slots sc L ip aR aM ao ad : Nat} {xs : Nat → Int32} (E : kE p s m args c "MilkRoundLaw" cL_law 9 D (kTy k) (gW D A s.heap)) (hA : ∀ q, s.heap.size ≤ q → A q) (hZ : kZ A s s.heap) (hX : va_X sc L xs s s.heap) (hbl : sc < s.heap.size) (hbA : ¬ A sc) (hL : L ≤ 1536) (hip : ip + 3 ≤ L)  {MR MR' : va_W} {lf lf' : Nat → Int64} {df : Nat → UInt64} {r : Int32} (hW : mH l yL_bestVat cL_bestVat 3 (some .int) [(0, 8, 11, 53)] 14 700 4 24 D (kTy k) [.ref aR, .ref ao] (oL k ao lf :: MR) (.inl (some (.int r), oL k ao lf' :: MR'))) {MO MO' : va_W} {fs1 fs2 : List Value} (heMO : MO[0]? = some (aM, .inr (3, fs1))) (heMO' : MO'[0]? = some (aM, .inr (3, fs2))) {f lo : Nat} (hf : f ≤ 16) (hlo : lo ≤ 800) {v : Int32} (hMo : mW l yX3_bestVat cX3_bestVat 5 (some .int) f lo 0 0 D (kTy k) [.ref aM] MO (some (.int v)) MO') (hTh : mR l yX3_thrown cX3_thrown 1 (some .int) 0 0 D (kTy k) [.ref aM] MO' (some (.int r))) (hres : r = 0 → lf' 0 = v.toInt64) (hcap : cells + 4 ≤ 603072 ∧ slots + 24 ≤ 7219306) (K : kJ p l e (kRmc 21 10870 603072 7219306) s m args below meth c (gW D A s.heap) 9 (cells + 4) (slots + 24) Q (MO' ++ ((oL k ao lf' :: MR') ++ [oD k ad df])) 1730 [(5, .int (nI ip)), (0, .ref sc), (1, .ref aR), (2, .ref aM), (3, .ref ao), (4, .ref ad)] []) : kJ p l e (kRmc 21 10870 603072 7219306) s m args below meth c (gW D A s.heap) 9 cells slots Q (MO ++ ((oL k ao lf :: MR) ++ [oD k ad df])) 778 [(5, .int (nI ip)), (0, .ref sc), (1, .ref aR), (2, .ref aM), (3, .ref ao), (4, .ref ad)] [] := by
  refine k_aload_n E 2 rfl rfl dL_law_778 ?_
  refine k_aload_n E 4 rfl rfl dL_law_779 ?_
  refine k_callXS [.ref aR, .ref ao] E hA hZ hW cf_L_bestVat q_429 MO [oD k ad df] rfl rfl rfl ⟨by decide, by decide⟩ (Nat.le_of_ble_eq_true rfl) hcap dL_law_780 ?_
  refine k_istore (lv' := [(6, .int r), (5, .int (nI ip)), (0, .ref sc), (1, .ref aR), (2, .ref aM), (3, .ref ao), (4, .ref ad)]) E (by decide) rfl dL_law_783 ?_
  refine k_aload_n E 4 rfl rfl dL_law_785 ?_
  refine k_callWV0 [] E hA hMo cf_X3_bestVat q_816 [] ((oL k ao lf' :: MR') ++ [oD k ad df]) rfl heMO rfl rfl rfl ⟨show f + 1 ≤ 21 by omega, show 8 + (5 + 11) + lo ≤ 10870 by omega⟩ (Nat.le_of_ble_eq_true rfl) ⟨show cells + 4 + 0 ≤ 603072 by omega, show slots + 24 + 0 ≤ 7219306 by omega⟩ dL_law_786 ?_
  refine k_istore (lv' := [(7, .int v), (6, .int r), (5, .int (nI ip)), (0, .ref sc), (1, .ref aR), (2, .ref aM), (3, .ref ao), (4, .ref ad)]) E (by decide) rfl dL_law_789 ?_
  refine k_aload_n E 5 rfl rfl dL_law_791 ?_
  refine k_callRV0 [] E hTh cf_X3_thrown q_739 [] ((oL k ao lf' :: MR') ++ [oD k ad df]) rfl heMO' rfl rfl rfl ⟨by decide, by decide⟩ (Nat.le_of_ble_eq_true rfl) ⟨show cells + 4 ≤ 603072 by omega, show slots + 24 ≤ 7219306 by omega⟩ dL_law_792 ?_
  refine k_iload E 1 rfl dL_law_795 ?_
  refine k_icmp_eq E (tgt := 802) (by decide) dL_law_797 (fun _ => ?_) (fun q => absurd rfl q)
  refine k_iload E 1 rfl dL_law_802 ?_
  refine k_if_ne E (tgt := 819) (by decide) dL_law_804 (fun hr0 => ?_) (fun hr0 => ?_)
  · skip
    refine k_goto E (tgt := 1730) (by decide) dL_law_819 ?_
    exact k_lv [2, 3, 4, 5, 6, 7] rfl K
  · skip
    refine k_aload_n E 6 rfl rfl dL_law_807 ?_
    refine k_iconst E (v := 0) (by decide) dL_law_808 ?_
    refine k_lald E (n := 1) (f := lf') MO'.length 3 (by simp) rfl (j := 0) rfl (by decide) (by decide) dL_law_809 ?_
    refine k_iload E 0 rfl dL_law_810 ?_
    refine k_i2l E (v := v.toInt64) rfl dL_law_812 ?_
    refine k_lcmp E dL_law_813 ?_
    refine k_if_eq E (tgt := 819) (by decide) dL_law_814 (fun _ => ?_) (fun q => absurd (by rw [hres hr0]; exact lg_self _) q)
    refine k_goto E (tgt := 1730) (by decide) dL_law_819 ?_
    exact k_lv [2, 3, 4, 5, 6, 7] rfl K
set_option maxRecDepth 100000 in
theorem g_close {p : Program} {e : Env} {s : State} {m : MethodId} {args : Array Value} {below : List Frame} {meth : Method} {c : Code} {Q : State → Prop} {A : Nat → Prop} {l : Launch} {D : va_G} {k : Nat → ClassId} {cells slots sc L ip aR aM ao ad : Nat} {xs : Nat → Int32} (E : kE p s m args c "MilkRoundLaw" cL_law 9 D (kTy k) (gW D A s.heap)) (hA : ∀ q, s.heap.size ≤ q → A q) (hZ : kZ A s s.heap) (hX : va_X sc L xs s s.heap) (hbl : sc < s.heap.size) (hbA : ¬ A sc) (hL : L ≤ 1536) (hip : ip + 3 ≤ L) (x1 : Int32) (hx1 : xs (ip + 1) = x1) {MR MR' : va_W} {lf lf' : Nat → Int64} {df : Nat → UInt64} {r : Int32} (hW : mH l yL_close cL_close 4 (some .int) [(0, 9, 12, 21), (0, 9, 15, 45), (0, 9, 18, 15)] 14 700 4 24 D (kTy k) [.ref aR, .int x1, .ref ao] (oL k ao lf :: MR) (.inl (some (.int r), oL k ao lf' :: MR'))) {MO MO' : va_W} {fs1 fs2 : List Value} (heMO : MO[0]? = some (aM, .inr (3, fs1))) (heMO' : MO'[0]? = some (aM, .inr (3, fs2))) {f lo : Nat} (hf : f ≤ 16) (hlo : lo ≤ 800) {v : Int32} (hMo : mW l yX3_close cX3_close 3 (some .int) f lo 0 0 D (kTy k) [.ref aM, .int x1] MO (some (.int v)) MO') (hTh : mR l yX3_thrown cX3_thrown 1 (some .int) 0 0 D (kTy k) [.ref aM] MO' (some (.int r))) (hres : r = 0 → lf' 0 = v.toInt64) (hcap : cells + 4 ≤ 603072 ∧ slots + 24 ≤ 7219306) (K : kJ p l e (kRmc 21 10870 603072 7219306) s m args below meth c (gW D A s.heap) 9 (cells + 4) (slots + 24) Q (MO' ++ ((oL k ao lf' :: MR') ++ [oD k ad df])) 1730 [(5, .int (nI ip)), (0, .ref sc), (1, .ref aR), (2, .ref aM), (3, .ref ao), (4, .ref ad)] []) : kJ p l e (kRmc 21 10870 603072 7219306) s m args below meth c (gW D A s.heap) 9 cells slots Q (MO ++ ((oL k ao lf :: MR) ++ [oD k ad df])) 822 [(5, .int (nI ip)), (0, .ref sc), (1, .ref aR), (2, .ref aM), (3, .ref ao), (4, .ref ad)] [] := by
  refine k_aload_n E 2 rfl rfl dL_law_822 ?_
  refine k_aload_n E 1 rfl rfl dL_law_823 ?_
  refine k_iload E 0 rfl dL_law_824 ?_
  refine k_iconst E (v := 1) (by decide) dL_law_826 ?_
  refine k_iadd E dL_law_827 ?_
  refine k_steq (st' := .int (nI (ip + 1)) :: [.ref sc, .ref aR]) (by rw [show nI ip + 1 = nI (ip + 1) from nI_add ip 1]; all_goals rfl) ?_
  refine k_sld E hX hbl hbA (by omega) hL hx1 dL_law_828 ?_
  refine k_aload_n E 4 rfl rfl dL_law_829 ?_
  refine k_callXS [.ref aR, .int x1, .ref ao] E hA hZ hW cf_L_close q_453 MO [oD k ad df] rfl rfl rfl ⟨by decide, by decide⟩ (Nat.le_of_ble_eq_true rfl) hcap dL_law_830 ?_
  refine k_istore (lv' := [(6, .int r), (5, .int (nI ip)), (0, .ref sc), (1, .ref aR), (2, .ref aM), (3, .ref ao), (4, .ref ad)]) E (by decide) rfl dL_law_833 ?_
  refine k_aload_n E 4 rfl rfl dL_law_835 ?_
  refine k_aload_n E 2 rfl rfl dL_law_836 ?_
  refine k_iload E 1 rfl dL_law_837 ?_
  refine k_iconst E (v := 1) (by decide) dL_law_839 ?_
  refine k_iadd E dL_law_840 ?_
  refine k_steq (st' := .int (nI (ip + 1)) :: [.ref sc, .ref aM]) (by rw [show nI ip + 1 = nI (ip + 1) from nI_add ip 1]; all_goals rfl) ?_
  refine k_sld E hX hbl hbA (by omega) hL hx1 dL_law_841 ?_
  refine k_callWV0 [.int x1] E hA hMo cf_X3_close q_820 [] ((oL k ao lf' :: MR') ++ [oD k ad df]) rfl heMO rfl rfl rfl ⟨show f + 1 ≤ 21 by omega, show 8 + (3 + 11) + lo ≤ 10870 by omega⟩ (Nat.le_of_ble_eq_true rfl) ⟨show cells + 4 + 0 ≤ 603072 by omega, show slots + 24 + 0 ≤ 7219306 by omega⟩ dL_law_842 ?_
  refine k_istore (lv' := [(7, .int v), (6, .int r), (5, .int (nI ip)), (0, .ref sc), (1, .ref aR), (2, .ref aM), (3, .ref ao), (4, .ref ad)]) E (by decide) rfl dL_law_845 ?_
  refine k_aload_n E 5 rfl rfl dL_law_847 ?_
  refine k_callRV0 [] E hTh cf_X3_thrown q_739 [] ((oL k ao lf' :: MR') ++ [oD k ad df]) rfl heMO' rfl rfl rfl ⟨by decide, by decide⟩ (Nat.le_of_ble_eq_true rfl) ⟨show cells + 4 ≤ 603072 by omega, show slots + 24 ≤ 7219306 by omega⟩ dL_law_848 ?_
  refine k_iload E 1 rfl dL_law_851 ?_
  refine k_icmp_eq E (tgt := 858) (by decide) dL_law_853 (fun _ => ?_) (fun q => absurd rfl q)
  refine k_iload E 1 rfl dL_law_858 ?_
  refine k_if_ne E (tgt := 875) (by decide) dL_law_860 (fun hr0 => ?_) (fun hr0 => ?_)
  · skip
    refine k_goto E (tgt := 1730) (by decide) dL_law_875 ?_
    exact k_lv [2, 3, 4, 5, 6, 7] rfl K
  · skip
    refine k_aload_n E 6 rfl rfl dL_law_863 ?_
    refine k_iconst E (v := 0) (by decide) dL_law_864 ?_
    refine k_lald E (n := 1) (f := lf') MO'.length 3 (by simp) rfl (j := 0) rfl (by decide) (by decide) dL_law_865 ?_
    refine k_iload E 0 rfl dL_law_866 ?_
    refine k_i2l E (v := v.toInt64) rfl dL_law_868 ?_
    refine k_lcmp E dL_law_869 ?_
    refine k_if_eq E (tgt := 875) (by decide) dL_law_870 (fun _ => ?_) (fun q => absurd (by rw [hres hr0]; exact lg_self _) q)
    refine k_goto E (tgt := 1730) (by decide) dL_law_875 ?_
    exact k_lv [2, 3, 4, 5, 6, 7] rfl K
set_option maxRecDepth 100000 in
theorem g_samples {p : Program} {e : Env} {s : State} {m : MethodId} {args : Array Value} {below : List Frame} {meth : Method} {c : Code} {Q : State → Prop} {A : Nat → Prop} {l : Launch} {D : va_G} {k : Nat → ClassId} {cells slots sc L ip aR aM ao ad : Nat} {xs : Nat → Int32} (E : kE p s m args c "MilkRoundLaw" cL_law 9 D (kTy k) (gW D A s.heap)) (hA : ∀ q, s.heap.size ≤ q → A q) (hZ : kZ A s s.heap) (hX : va_X sc L xs s s.heap) (hbl : sc < s.heap.size) (hbA : ¬ A sc) (hL : L ≤ 1536) (hip : ip + 3 ≤ L) {MR : va_W} {lf : Nat → Int64} {df : Nat → UInt64} {fs0 : List Value} (heMR : MR[0]? = some (aR, .inr (2, fs0))) {v : Int32} (hCl : mR l yX2_samples cX2_samples 1 (some .int) 0 0 D (kTy k) [.ref aR] MR (some (.int v))) {MO MO' : va_W} {fs1 fs2 : List Value} (heMO : MO[0]? = some (aM, .inr (3, fs1))) (heMO' : MO'[0]? = some (aM, .inr (3, fs2))) {f lo : Nat} (hf : f ≤ 16) (hlo : lo ≤ 800) (hMo : mW l yX3_samples cX3_samples 1 (some .int) f lo 0 0 D (kTy k) [.ref aM] MO (some (.int v)) MO') (hcap : cells + 4 ≤ 603072 ∧ slots + 24 ≤ 7219306) (K : kJ p l e (kRmc 21 10870 603072 7219306) s m args below meth c (gW D A s.heap) 9 cells slots Q (MO' ++ ((oL k ao lf :: MR) ++ [oD k ad df])) 1730 [(5, .int (nI ip)), (0, .ref sc), (1, .ref aR), (2, .ref aM), (3, .ref ao), (4, .ref ad)] []) : kJ p l e (kRmc 21 10870 603072 7219306) s m args below meth c (gW D A s.heap) 9 cells slots Q (MO ++ ((oL k ao lf :: MR) ++ [oD k ad df])) 878 [(5, .int (nI ip)), (0, .ref sc), (1, .ref aR), (2, .ref aM), (3, .ref ao), (4, .ref ad)] [] := by
  refine k_aload_n E 2 rfl rfl dL_law_878 ?_
  refine k_callRV0 [] E hCl cf_X2_samples q_136 (MO ++ [oL k ao lf]) [oD k ad df] (by simp) heMR rfl rfl rfl ⟨by decide, by decide⟩ (Nat.le_of_ble_eq_true rfl) ⟨show cells ≤ 603072 by omega, show slots ≤ 7219306 by omega⟩ dL_law_879 ?_
  refine k_aload_n E 3 rfl rfl dL_law_882 ?_
  refine k_callWV0 [] E hA hMo cf_X3_samples q_824 [] ((oL k ao lf :: MR) ++ [oD k ad df]) rfl heMO rfl rfl rfl ⟨show f + 1 ≤ 21 by omega, show 8 + (1 + 11) + lo ≤ 10870 by omega⟩ (Nat.le_of_ble_eq_true rfl) ⟨show cells + 0 ≤ 603072 by omega, show slots + 0 ≤ 7219306 by omega⟩ dL_law_883 ?_
  refine k_icmp_eq E (tgt := 1730) (by decide) dL_law_886 (fun _ => ?_) (fun q => absurd rfl q)
  exact k_lv [0, 1, 2, 3, 4, 5] rfl K
set_option maxRecDepth 100000 in
theorem g_farmOf {p : Program} {e : Env} {s : State} {m : MethodId} {args : Array Value} {below : List Frame} {meth : Method} {c : Code} {Q : State → Prop} {A : Nat → Prop} {l : Launch} {D : va_G} {k : Nat → ClassId} {cells slots sc L ip aR aM ao ad : Nat} {xs : Nat → Int32} (E : kE p s m args c "MilkRoundLaw" cL_law 9 D (kTy k) (gW D A s.heap)) (hA : ∀ q, s.heap.size ≤ q → A q) (hZ : kZ A s s.heap) (hX : va_X sc L xs s s.heap) (hbl : sc < s.heap.size) (hbA : ¬ A sc) (hL : L ≤ 1536) (hip : ip + 3 ≤ L) (x1 : Int32) (hx1 : xs (ip + 1) = x1) {MR MR' : va_W} {lf lf' : Nat → Int64} {df : Nat → UInt64} {r : Int32} (hW : mH l yL_farmOf cL_farmOf 4 (some .int) [(0, 9, 12, 21)] 14 700 4 24 D (kTy k) [.ref aR, .int x1, .ref ao] (oL k ao lf :: MR) (.inl (some (.int r), oL k ao lf' :: MR'))) {MO MO' : va_W} {fs1 fs2 : List Value} (heMO : MO[0]? = some (aM, .inr (3, fs1))) (heMO' : MO'[0]? = some (aM, .inr (3, fs2))) {f lo : Nat} (hf : f ≤ 16) (hlo : lo ≤ 800) {v : Int32} (hMo : mW l yX3_farmOf cX3_farmOf 2 (some .int) f lo 0 0 D (kTy k) [.ref aM, .int x1] MO (some (.int v)) MO') (hTh : mR l yX3_thrown cX3_thrown 1 (some .int) 0 0 D (kTy k) [.ref aM] MO' (some (.int r))) (hres : r = 0 → lf' 0 = v.toInt64) (hcap : cells + 4 ≤ 603072 ∧ slots + 24 ≤ 7219306) (K : kJ p l e (kRmc 21 10870 603072 7219306) s m args below meth c (gW D A s.heap) 9 (cells + 4) (slots + 24) Q (MO' ++ ((oL k ao lf' :: MR') ++ [oD k ad df])) 1730 [(5, .int (nI ip)), (0, .ref sc), (1, .ref aR), (2, .ref aM), (3, .ref ao), (4, .ref ad)] []) : kJ p l e (kRmc 21 10870 603072 7219306) s m args below meth c (gW D A s.heap) 9 cells slots Q (MO ++ ((oL k ao lf :: MR) ++ [oD k ad df])) 891 [(5, .int (nI ip)), (0, .ref sc), (1, .ref aR), (2, .ref aM), (3, .ref ao), (4, .ref ad)] [] := by
  refine k_aload_n E 2 rfl rfl dL_law_891 ?_
  refine k_aload_n E 1 rfl rfl dL_law_892 ?_
  refine k_iload E 0 rfl dL_law_893 ?_
  refine k_iconst E (v := 1) (by decide) dL_law_895 ?_
  refine k_iadd E dL_law_896 ?_
  refine k_steq (st' := .int (nI (ip + 1)) :: [.ref sc, .ref aR]) (by rw [show nI ip + 1 = nI (ip + 1) from nI_add ip 1]; all_goals rfl) ?_
  refine k_sld E hX hbl hbA (by omega) hL hx1 dL_law_897 ?_
  refine k_aload_n E 4 rfl rfl dL_law_898 ?_
  refine k_callXS [.ref aR, .int x1, .ref ao] E hA hZ hW cf_L_farmOf q_497 MO [oD k ad df] rfl rfl rfl ⟨by decide, by decide⟩ (Nat.le_of_ble_eq_true rfl) hcap dL_law_899 ?_
  refine k_istore (lv' := [(6, .int r), (5, .int (nI ip)), (0, .ref sc), (1, .ref aR), (2, .ref aM), (3, .ref ao), (4, .ref ad)]) E (by decide) rfl dL_law_902 ?_
  refine k_aload_n E 4 rfl rfl dL_law_904 ?_
  refine k_aload_n E 2 rfl rfl dL_law_905 ?_
  refine k_iload E 1 rfl dL_law_906 ?_
  refine k_iconst E (v := 1) (by decide) dL_law_908 ?_
  refine k_iadd E dL_law_909 ?_
  refine k_steq (st' := .int (nI (ip + 1)) :: [.ref sc, .ref aM]) (by rw [show nI ip + 1 = nI (ip + 1) from nI_add ip 1]; all_goals rfl) ?_
  refine k_sld E hX hbl hbA (by omega) hL hx1 dL_law_910 ?_
  refine k_callWV0 [.int x1] E hA hMo cf_X3_farmOf q_828 [] ((oL k ao lf' :: MR') ++ [oD k ad df]) rfl heMO rfl rfl rfl ⟨show f + 1 ≤ 21 by omega, show 8 + (2 + 11) + lo ≤ 10870 by omega⟩ (Nat.le_of_ble_eq_true rfl) ⟨show cells + 4 + 0 ≤ 603072 by omega, show slots + 24 + 0 ≤ 7219306 by omega⟩ dL_law_911 ?_
  refine k_istore (lv' := [(7, .int v), (6, .int r), (5, .int (nI ip)), (0, .ref sc), (1, .ref aR), (2, .ref aM), (3, .ref ao), (4, .ref ad)]) E (by decide) rfl dL_law_914 ?_
  refine k_aload_n E 5 rfl rfl dL_law_916 ?_
  refine k_callRV0 [] E hTh cf_X3_thrown q_739 [] ((oL k ao lf' :: MR') ++ [oD k ad df]) rfl heMO' rfl rfl rfl ⟨by decide, by decide⟩ (Nat.le_of_ble_eq_true rfl) ⟨show cells + 4 ≤ 603072 by omega, show slots + 24 ≤ 7219306 by omega⟩ dL_law_917 ?_
  refine k_iload E 1 rfl dL_law_920 ?_
  refine k_icmp_eq E (tgt := 927) (by decide) dL_law_922 (fun _ => ?_) (fun q => absurd rfl q)
  refine k_iload E 1 rfl dL_law_927 ?_
  refine k_if_ne E (tgt := 944) (by decide) dL_law_929 (fun hr0 => ?_) (fun hr0 => ?_)
  · skip
    refine k_goto E (tgt := 1730) (by decide) dL_law_944 ?_
    exact k_lv [2, 3, 4, 5, 6, 7] rfl K
  · skip
    refine k_aload_n E 6 rfl rfl dL_law_932 ?_
    refine k_iconst E (v := 0) (by decide) dL_law_933 ?_
    refine k_lald E (n := 1) (f := lf') MO'.length 3 (by simp) rfl (j := 0) rfl (by decide) (by decide) dL_law_934 ?_
    refine k_iload E 0 rfl dL_law_935 ?_
    refine k_i2l E (v := v.toInt64) rfl dL_law_937 ?_
    refine k_lcmp E dL_law_938 ?_
    refine k_if_eq E (tgt := 944) (by decide) dL_law_939 (fun _ => ?_) (fun q => absurd (by rw [hres hr0]; exact lg_self _) q)
    refine k_goto E (tgt := 1730) (by decide) dL_law_944 ?_
    exact k_lv [2, 3, 4, 5, 6, 7] rfl K
set_option maxRecDepth 100000 in
theorem g_litres {p : Program} {e : Env} {s : State} {m : MethodId} {args : Array Value} {below : List Frame} {meth : Method} {c : Code} {Q : State → Prop} {A : Nat → Prop} {l : Launch} {D : va_G} {k : Nat → ClassId} {cells slots sc L ip aR aM ao ad : Nat} {xs : Nat → Int32} (E : kE p s m args c "MilkRoundLaw" cL_law 9 D (kTy k) (gW D A s.heap)) (hA : ∀ q, s.heap.size ≤ q → A q) (hZ : kZ A s s.heap) (hX : va_X sc L xs s s.heap) (hbl : sc < s.heap.size) (hbA : ¬ A sc) (hL : L ≤ 1536) (hip : ip + 3 ≤ L) (x1 : Int32) (hx1 : xs (ip + 1) = x1) {MR MR' : va_W} {lf lf' : Nat → Int64} {df : Nat → UInt64} {r : Int32} (hW : mH l yL_litres cL_litres 4 (some .int) [(0, 9, 12, 21)] 14 700 4 24 D (kTy k) [.ref aR, .int x1, .ref ao] (oL k ao lf :: MR) (.inl (some (.int r), oL k ao lf' :: MR'))) {MO MO' : va_W} {fs1 fs2 : List Value} (heMO : MO[0]? = some (aM, .inr (3, fs1))) (heMO' : MO'[0]? = some (aM, .inr (3, fs2))) {f lo : Nat} (hf : f ≤ 16) (hlo : lo ≤ 800) {v : Int32} (hMo : mW l yX3_litres cX3_litres 2 (some .int) f lo 0 0 D (kTy k) [.ref aM, .int x1] MO (some (.int v)) MO') (hTh : mR l yX3_thrown cX3_thrown 1 (some .int) 0 0 D (kTy k) [.ref aM] MO' (some (.int r))) (hres : r = 0 → lf' 0 = v.toInt64) (hcap : cells + 4 ≤ 603072 ∧ slots + 24 ≤ 7219306) (K : kJ p l e (kRmc 21 10870 603072 7219306) s m args below meth c (gW D A s.heap) 9 (cells + 4) (slots + 24) Q (MO' ++ ((oL k ao lf' :: MR') ++ [oD k ad df])) 1730 [(5, .int (nI ip)), (0, .ref sc), (1, .ref aR), (2, .ref aM), (3, .ref ao), (4, .ref ad)] []) : kJ p l e (kRmc 21 10870 603072 7219306) s m args below meth c (gW D A s.heap) 9 cells slots Q (MO ++ ((oL k ao lf :: MR) ++ [oD k ad df])) 947 [(5, .int (nI ip)), (0, .ref sc), (1, .ref aR), (2, .ref aM), (3, .ref ao), (4, .ref ad)] [] := by
  refine k_aload_n E 2 rfl rfl dL_law_947 ?_
  refine k_aload_n E 1 rfl rfl dL_law_948 ?_
  refine k_iload E 0 rfl dL_law_949 ?_
  refine k_iconst E (v := 1) (by decide) dL_law_951 ?_
  refine k_iadd E dL_law_952 ?_
  refine k_steq (st' := .int (nI (ip + 1)) :: [.ref sc, .ref aR]) (by rw [show nI ip + 1 = nI (ip + 1) from nI_add ip 1]; all_goals rfl) ?_
  refine k_sld E hX hbl hbA (by omega) hL hx1 dL_law_953 ?_
  refine k_aload_n E 4 rfl rfl dL_law_954 ?_
  refine k_callXS [.ref aR, .int x1, .ref ao] E hA hZ hW cf_L_litres q_509 MO [oD k ad df] rfl rfl rfl ⟨by decide, by decide⟩ (Nat.le_of_ble_eq_true rfl) hcap dL_law_955 ?_
  refine k_istore (lv' := [(6, .int r), (5, .int (nI ip)), (0, .ref sc), (1, .ref aR), (2, .ref aM), (3, .ref ao), (4, .ref ad)]) E (by decide) rfl dL_law_958 ?_
  refine k_aload_n E 4 rfl rfl dL_law_960 ?_
  refine k_aload_n E 2 rfl rfl dL_law_961 ?_
  refine k_iload E 1 rfl dL_law_962 ?_
  refine k_iconst E (v := 1) (by decide) dL_law_964 ?_
  refine k_iadd E dL_law_965 ?_
  refine k_steq (st' := .int (nI (ip + 1)) :: [.ref sc, .ref aM]) (by rw [show nI ip + 1 = nI (ip + 1) from nI_add ip 1]; all_goals rfl) ?_
  refine k_sld E hX hbl hbA (by omega) hL hx1 dL_law_966 ?_
  refine k_callWV0 [.int x1] E hA hMo cf_X3_litres q_836 [] ((oL k ao lf' :: MR') ++ [oD k ad df]) rfl heMO rfl rfl rfl ⟨show f + 1 ≤ 21 by omega, show 8 + (2 + 11) + lo ≤ 10870 by omega⟩ (Nat.le_of_ble_eq_true rfl) ⟨show cells + 4 + 0 ≤ 603072 by omega, show slots + 24 + 0 ≤ 7219306 by omega⟩ dL_law_967 ?_
  refine k_istore (lv' := [(7, .int v), (6, .int r), (5, .int (nI ip)), (0, .ref sc), (1, .ref aR), (2, .ref aM), (3, .ref ao), (4, .ref ad)]) E (by decide) rfl dL_law_970 ?_
  refine k_aload_n E 5 rfl rfl dL_law_972 ?_
  refine k_callRV0 [] E hTh cf_X3_thrown q_739 [] ((oL k ao lf' :: MR') ++ [oD k ad df]) rfl heMO' rfl rfl rfl ⟨by decide, by decide⟩ (Nat.le_of_ble_eq_true rfl) ⟨show cells + 4 ≤ 603072 by omega, show slots + 24 ≤ 7219306 by omega⟩ dL_law_973 ?_
  refine k_iload E 1 rfl dL_law_976 ?_
  refine k_icmp_eq E (tgt := 983) (by decide) dL_law_978 (fun _ => ?_) (fun q => absurd rfl q)
  refine k_iload E 1 rfl dL_law_983 ?_
  refine k_if_ne E (tgt := 1000) (by decide) dL_law_985 (fun hr0 => ?_) (fun hr0 => ?_)
  · skip
    refine k_goto E (tgt := 1730) (by decide) dL_law_1000 ?_
    exact k_lv [2, 3, 4, 5, 6, 7] rfl K
  · skip
    refine k_aload_n E 6 rfl rfl dL_law_988 ?_
    refine k_iconst E (v := 0) (by decide) dL_law_989 ?_
    refine k_lald E (n := 1) (f := lf') MO'.length 3 (by simp) rfl (j := 0) rfl (by decide) (by decide) dL_law_990 ?_
    refine k_iload E 0 rfl dL_law_991 ?_
    refine k_i2l E (v := v.toInt64) rfl dL_law_993 ?_
    refine k_lcmp E dL_law_994 ?_
    refine k_if_eq E (tgt := 1000) (by decide) dL_law_995 (fun _ => ?_) (fun q => absurd (by rw [hres hr0]; exact lg_self _) q)
    refine k_goto E (tgt := 1730) (by decide) dL_law_1000 ?_
    exact k_lv [2, 3, 4, 5, 6, 7] rfl K
set_option maxRecDepth 100000 in
theorem g_grade {p : Program} {e : Env} {s : State} {m : MethodId} {args : Array Value} {below : List Frame} {meth : Method} {c : Code} {Q : State → Prop} {A : Nat → Prop} {l : Launch} {D : va_G} {k : Nat → ClassId} {cells slots sc L ip aR aM ao ad : Nat} {xs : Nat → Int32} (E : kE p s m args c "MilkRoundLaw" cL_law 9 D (kTy k) (gW D A s.heap)) (hA : ∀ q, s.heap.size ≤ q → A q) (hZ : kZ A s s.heap) (hX : va_X sc L xs s s.heap) (hbl : sc < s.heap.size) (hbA : ¬ A sc) (hL : L ≤ 1536) (hip : ip + 3 ≤ L) (x1 : Int32) (hx1 : xs (ip + 1) = x1) (x2 : Int32) (hx2 : xs (ip + 2) = x2) (g : Int32) (hg : (x2.toUInt32 % 65536).toInt32 = g) {MR MR' : va_W} {lf lf' : Nat → Int64} {df : Nat → UInt64} {r : Int32} (hW : mH l yL_grade cL_grade 5 (some .int) [(0, 10, 13, 21), (0, 10, 17, 13), (0, 10, 21, 15)] 14 700 4 24 D (kTy k) [.ref aR, .int x1, .int g, .ref ao] (oL k ao lf :: MR) (.inl (some (.int r), oL k ao lf' :: MR'))) {MO MO' : va_W} {fs1 fs2 : List Value} (heMO : MO[0]? = some (aM, .inr (3, fs1))) (heMO' : MO'[0]? = some (aM, .inr (3, fs2))) {f lo : Nat} (hf : f ≤ 16) (hlo : lo ≤ 800) {v : Int32} (hMo : mW l yX3_grade cX3_grade 6 (some .int) f lo 0 0 D (kTy k) [.ref aM, .int x1, .int g] MO (some (.int v)) MO') (hTh : mR l yX3_thrown cX3_thrown 1 (some .int) 0 0 D (kTy k) [.ref aM] MO' (some (.int r))) (hres : r = 0 → lf' 0 = v.toInt64) (hcap : cells + 4 ≤ 603072 ∧ slots + 24 ≤ 7219306) (K : kJ p l e (kRmc 21 10870 603072 7219306) s m args below meth c (gW D A s.heap) 9 (cells + 4) (slots + 24) Q (MO' ++ ((oL k ao lf' :: MR') ++ [oD k ad df])) 1730 [(5, .int (nI ip)), (0, .ref sc), (1, .ref aR), (2, .ref aM), (3, .ref ao), (4, .ref ad)] []) : kJ p l e (kRmc 21 10870 603072 7219306) s m args below meth c (gW D A s.heap) 9 cells slots Q (MO ++ ((oL k ao lf :: MR) ++ [oD k ad df])) 1003 [(5, .int (nI ip)), (0, .ref sc), (1, .ref aR), (2, .ref aM), (3, .ref ao), (4, .ref ad)] [] := by
  refine k_aload_n E 2 rfl rfl dL_law_1003 ?_
  refine k_aload_n E 1 rfl rfl dL_law_1004 ?_
  refine k_iload E 0 rfl dL_law_1005 ?_
  refine k_iconst E (v := 1) (by decide) dL_law_1007 ?_
  refine k_iadd E dL_law_1008 ?_
  refine k_steq (st' := .int (nI (ip + 1)) :: [.ref sc, .ref aR]) (by rw [show nI ip + 1 = nI (ip + 1) from nI_add ip 1]; all_goals rfl) ?_
  refine k_sld E hX hbl hbA (by omega) hL hx1 dL_law_1009 ?_
  refine k_aload_n E 1 rfl rfl dL_law_1010 ?_
  refine k_iload E 0 rfl dL_law_1011 ?_
  refine k_iconst E (v := 2) (by decide) dL_law_1013 ?_
  refine k_iadd E dL_law_1014 ?_
  refine k_steq (st' := .int (nI (ip + 2)) :: [.ref sc, .int x1, .ref aR]) (by rw [show nI ip + 2 = nI (ip + 2) from nI_add ip 2]; all_goals rfl) ?_
  refine k_sld E hX hbl hbA (by omega) hL hx2 dL_law_1015 ?_
  refine k_i2c E (v := g) hg dL_law_1016 ?_
  refine k_aload_n E 4 rfl rfl dL_law_1017 ?_
  refine k_callXS [.ref aR, .int x1, .int g, .ref ao] E hA hZ hW cf_L_grade q_516 MO [oD k ad df] rfl rfl rfl ⟨by decide, by decide⟩ (Nat.le_of_ble_eq_true rfl) hcap dL_law_1018 ?_
  refine k_istore (lv' := [(6, .int r), (5, .int (nI ip)), (0, .ref sc), (1, .ref aR), (2, .ref aM), (3, .ref ao), (4, .ref ad)]) E (by decide) rfl dL_law_1021 ?_
  refine k_aload_n E 4 rfl rfl dL_law_1023 ?_
  refine k_aload_n E 2 rfl rfl dL_law_1024 ?_
  refine k_iload E 1 rfl dL_law_1025 ?_
  refine k_iconst E (v := 1) (by decide) dL_law_1027 ?_
  refine k_iadd E dL_law_1028 ?_
  refine k_steq (st' := .int (nI (ip + 1)) :: [.ref sc, .ref aM]) (by rw [show nI ip + 1 = nI (ip + 1) from nI_add ip 1]; all_goals rfl) ?_
  refine k_sld E hX hbl hbA (by omega) hL hx1 dL_law_1029 ?_
  refine k_aload_n E 2 rfl rfl dL_law_1030 ?_
  refine k_iload E 1 rfl dL_law_1031 ?_
  refine k_iconst E (v := 2) (by decide) dL_law_1033 ?_
  refine k_iadd E dL_law_1034 ?_
  refine k_steq (st' := .int (nI (ip + 2)) :: [.ref sc, .int x1, .ref aM]) (by rw [show nI ip + 2 = nI (ip + 2) from nI_add ip 2]; all_goals rfl) ?_
  refine k_sld E hX hbl hbA (by omega) hL hx2 dL_law_1035 ?_
  refine k_i2c E (v := g) hg dL_law_1036 ?_
  refine k_callWV0 [.int x1, .int g] E hA hMo cf_X3_grade q_840 [] ((oL k ao lf' :: MR') ++ [oD k ad df]) rfl heMO rfl rfl rfl ⟨show f + 1 ≤ 21 by omega, show 8 + (6 + 11) + lo ≤ 10870 by omega⟩ (Nat.le_of_ble_eq_true rfl) ⟨show cells + 4 + 0 ≤ 603072 by omega, show slots + 24 + 0 ≤ 7219306 by omega⟩ dL_law_1037 ?_
  refine k_istore (lv' := [(7, .int v), (6, .int r), (5, .int (nI ip)), (0, .ref sc), (1, .ref aR), (2, .ref aM), (3, .ref ao), (4, .ref ad)]) E (by decide) rfl dL_law_1040 ?_
  refine k_aload_n E 5 rfl rfl dL_law_1042 ?_
  refine k_callRV0 [] E hTh cf_X3_thrown q_739 [] ((oL k ao lf' :: MR') ++ [oD k ad df]) rfl heMO' rfl rfl rfl ⟨by decide, by decide⟩ (Nat.le_of_ble_eq_true rfl) ⟨show cells + 4 ≤ 603072 by omega, show slots + 24 ≤ 7219306 by omega⟩ dL_law_1043 ?_
  refine k_iload E 1 rfl dL_law_1046 ?_
  refine k_icmp_eq E (tgt := 1053) (by decide) dL_law_1048 (fun _ => ?_) (fun q => absurd rfl q)
  refine k_iload E 1 rfl dL_law_1053 ?_
  refine k_if_ne E (tgt := 1070) (by decide) dL_law_1055 (fun hr0 => ?_) (fun hr0 => ?_)
  · skip
    refine k_goto E (tgt := 1730) (by decide) dL_law_1070 ?_
    exact k_lv [2, 3, 4, 5, 6, 7] rfl K
  · skip
    refine k_aload_n E 6 rfl rfl dL_law_1058 ?_
    refine k_iconst E (v := 0) (by decide) dL_law_1059 ?_
    refine k_lald E (n := 1) (f := lf') MO'.length 3 (by simp) rfl (j := 0) rfl (by decide) (by decide) dL_law_1060 ?_
    refine k_iload E 0 rfl dL_law_1061 ?_
    refine k_i2l E (v := v.toInt64) rfl dL_law_1063 ?_
    refine k_lcmp E dL_law_1064 ?_
    refine k_if_eq E (tgt := 1070) (by decide) dL_law_1065 (fun _ => ?_) (fun q => absurd (by rw [hres hr0]; exact lg_self _) q)
    refine k_goto E (tgt := 1730) (by decide) dL_law_1070 ?_
    exact k_lv [2, 3, 4, 5, 6, 7] rfl K
set_option maxRecDepth 100000 in
theorem g_gradeOf {p : Program} {e : Env} {s : State} {m : MethodId} {args : Array Value} {below : List Frame} {meth : Method} {c : Code} {Q : State → Prop} {A : Nat → Prop} {l : Launch} {D : va_G} {k : Nat → ClassId} {cells slots sc L ip aR aM ao ad : Nat} {xs : Nat → Int32} (E : kE p s m args c "MilkRoundLaw" cL_law 9 D (kTy k) (gW D A s.heap)) (hA : ∀ q, s.heap.size ≤ q → A q) (hZ : kZ A s s.heap) (hX : va_X sc L xs s s.heap) (hbl : sc < s.heap.size) (hbA : ¬ A sc) (hL : L ≤ 1536) (hip : ip + 3 ≤ L) (x1 : Int32) (hx1 : xs (ip + 1) = x1) {MR MR' : va_W} {lf lf' : Nat → Int64} {df : Nat → UInt64} {r : Int32} (hW : mH l yL_gradeOf cL_gradeOf 4 (some .int) [(0, 9, 12, 21)] 14 700 4 24 D (kTy k) [.ref aR, .int x1, .ref ao] (oL k ao lf :: MR) (.inl (some (.int r), oL k ao lf' :: MR'))) {MO MO' : va_W} {fs1 fs2 : List Value} (heMO : MO[0]? = some (aM, .inr (3, fs1))) (heMO' : MO'[0]? = some (aM, .inr (3, fs2))) {f lo : Nat} (hf : f ≤ 16) (hlo : lo ≤ 800) {v : Int32} (hMo : mW l yX3_gradeOf cX3_gradeOf 2 (some .char) f lo 0 0 D (kTy k) [.ref aM, .int x1] MO (some (.int v)) MO') (hTh : mR l yX3_thrown cX3_thrown 1 (some .int) 0 0 D (kTy k) [.ref aM] MO' (some (.int r))) (hres : r = 0 → lf' 0 = v.toInt64) (hcap : cells + 4 ≤ 603072 ∧ slots + 24 ≤ 7219306) (K : kJ p l e (kRmc 21 10870 603072 7219306) s m args below meth c (gW D A s.heap) 9 (cells + 4) (slots + 24) Q (MO' ++ ((oL k ao lf' :: MR') ++ [oD k ad df])) 1730 [(5, .int (nI ip)), (0, .ref sc), (1, .ref aR), (2, .ref aM), (3, .ref ao), (4, .ref ad)] []) : kJ p l e (kRmc 21 10870 603072 7219306) s m args below meth c (gW D A s.heap) 9 cells slots Q (MO ++ ((oL k ao lf :: MR) ++ [oD k ad df])) 1073 [(5, .int (nI ip)), (0, .ref sc), (1, .ref aR), (2, .ref aM), (3, .ref ao), (4, .ref ad)] [] := by
  refine k_aload_n E 2 rfl rfl dL_law_1073 ?_
  refine k_aload_n E 1 rfl rfl dL_law_1074 ?_
  refine k_iload E 0 rfl dL_law_1075 ?_
  refine k_iconst E (v := 1) (by decide) dL_law_1077 ?_
  refine k_iadd E dL_law_1078 ?_
  refine k_steq (st' := .int (nI (ip + 1)) :: [.ref sc, .ref aR]) (by rw [show nI ip + 1 = nI (ip + 1) from nI_add ip 1]; all_goals rfl) ?_
  refine k_sld E hX hbl hbA (by omega) hL hx1 dL_law_1079 ?_
  refine k_aload_n E 4 rfl rfl dL_law_1080 ?_
  refine k_callXS [.ref aR, .int x1, .ref ao] E hA hZ hW cf_L_gradeOf q_529 MO [oD k ad df] rfl rfl rfl ⟨by decide, by decide⟩ (Nat.le_of_ble_eq_true rfl) hcap dL_law_1081 ?_
  refine k_istore (lv' := [(6, .int r), (5, .int (nI ip)), (0, .ref sc), (1, .ref aR), (2, .ref aM), (3, .ref ao), (4, .ref ad)]) E (by decide) rfl dL_law_1084 ?_
  refine k_aload_n E 4 rfl rfl dL_law_1086 ?_
  refine k_aload_n E 2 rfl rfl dL_law_1087 ?_
  refine k_iload E 1 rfl dL_law_1088 ?_
  refine k_iconst E (v := 1) (by decide) dL_law_1090 ?_
  refine k_iadd E dL_law_1091 ?_
  refine k_steq (st' := .int (nI (ip + 1)) :: [.ref sc, .ref aM]) (by rw [show nI ip + 1 = nI (ip + 1) from nI_add ip 1]; all_goals rfl) ?_
  refine k_sld E hX hbl hbA (by omega) hL hx1 dL_law_1092 ?_
  refine k_callWV0 [.int x1] E hA hMo cf_X3_gradeOf q_844 [] ((oL k ao lf' :: MR') ++ [oD k ad df]) rfl heMO rfl rfl rfl ⟨show f + 1 ≤ 21 by omega, show 8 + (2 + 11) + lo ≤ 10870 by omega⟩ (Nat.le_of_ble_eq_true rfl) ⟨show cells + 4 + 0 ≤ 603072 by omega, show slots + 24 + 0 ≤ 7219306 by omega⟩ dL_law_1093 ?_
  refine k_istore (lv' := [(7, .int v), (6, .int r), (5, .int (nI ip)), (0, .ref sc), (1, .ref aR), (2, .ref aM), (3, .ref ao), (4, .ref ad)]) E (by decide) rfl dL_law_1096 ?_
  refine k_aload_n E 5 rfl rfl dL_law_1098 ?_
  refine k_callRV0 [] E hTh cf_X3_thrown q_739 [] ((oL k ao lf' :: MR') ++ [oD k ad df]) rfl heMO' rfl rfl rfl ⟨by decide, by decide⟩ (Nat.le_of_ble_eq_true rfl) ⟨show cells + 4 ≤ 603072 by omega, show slots + 24 ≤ 7219306 by omega⟩ dL_law_1099 ?_
  refine k_iload E 1 rfl dL_law_1102 ?_
  refine k_icmp_eq E (tgt := 1109) (by decide) dL_law_1104 (fun _ => ?_) (fun q => absurd rfl q)
  refine k_iload E 1 rfl dL_law_1109 ?_
  refine k_if_ne E (tgt := 1126) (by decide) dL_law_1111 (fun hr0 => ?_) (fun hr0 => ?_)
  · skip
    refine k_goto E (tgt := 1730) (by decide) dL_law_1126 ?_
    exact k_lv [2, 3, 4, 5, 6, 7] rfl K
  · skip
    refine k_aload_n E 6 rfl rfl dL_law_1114 ?_
    refine k_iconst E (v := 0) (by decide) dL_law_1115 ?_
    refine k_lald E (n := 1) (f := lf') MO'.length 3 (by simp) rfl (j := 0) rfl (by decide) (by decide) dL_law_1116 ?_
    refine k_iload E 0 rfl dL_law_1117 ?_
    refine k_i2l E (v := v.toInt64) rfl dL_law_1119 ?_
    refine k_lcmp E dL_law_1120 ?_
    refine k_if_eq E (tgt := 1126) (by decide) dL_law_1121 (fun _ => ?_) (fun q => absurd (by rw [hres hr0]; exact lg_self _) q)
    refine k_goto E (tgt := 1730) (by decide) dL_law_1126 ?_
    exact k_lv [2, 3, 4, 5, 6, 7] rfl K
set_option maxRecDepth 100000 in
theorem g_batches {p : Program} {e : Env} {s : State} {m : MethodId} {args : Array Value} {below : List Frame} {meth : Method} {c : Code} {Q : State → Prop} {A : Nat → Prop} {l : Launch} {D : va_G} {k : Nat → ClassId} {cells slots sc L ip aR aM ao ad : Nat} {xs : Nat → Int32} (E : kE p s m args c "MilkRoundLaw" cL_law 9 D (kTy k) (gW D A s.heap)) (hA : ∀ q, s.heap.size ≤ q → A q) (hZ : kZ A s s.heap) (hX : va_X sc L xs s s.heap) (hbl : sc < s.heap.size) (hbA : ¬ A sc) (hL : L ≤ 1536) (hip : ip + 3 ≤ L) {MR : va_W} {lf : Nat → Int64} {df : Nat → UInt64} {fs0 : List Value} (heMR : MR[0]? = some (aR, .inr (2, fs0))) {v : Int32} (hCl : mR l yX2_batches cX2_batches 1 (some .int) 0 0 D (kTy k) [.ref aR] MR (some (.int v))) {MO MO' : va_W} {fs1 fs2 : List Value} (heMO : MO[0]? = some (aM, .inr (3, fs1))) (heMO' : MO'[0]? = some (aM, .inr (3, fs2))) {f lo : Nat} (hf : f ≤ 16) (hlo : lo ≤ 800) (hMo : mW l yX3_batches cX3_batches 1 (some .int) f lo 0 0 D (kTy k) [.ref aM] MO (some (.int v)) MO') (hcap : cells + 4 ≤ 603072 ∧ slots + 24 ≤ 7219306) (K : kJ p l e (kRmc 21 10870 603072 7219306) s m args below meth c (gW D A s.heap) 9 cells slots Q (MO' ++ ((oL k ao lf :: MR) ++ [oD k ad df])) 1730 [(5, .int (nI ip)), (0, .ref sc), (1, .ref aR), (2, .ref aM), (3, .ref ao), (4, .ref ad)] []) : kJ p l e (kRmc 21 10870 603072 7219306) s m args below meth c (gW D A s.heap) 9 cells slots Q (MO ++ ((oL k ao lf :: MR) ++ [oD k ad df])) 1129 [(5, .int (nI ip)), (0, .ref sc), (1, .ref aR), (2, .ref aM), (3, .ref ao), (4, .ref ad)] [] := by
  refine k_aload_n E 2 rfl rfl dL_law_1129 ?_
  refine k_callRV0 [] E hCl cf_X2_batches q_140 (MO ++ [oL k ao lf]) [oD k ad df] (by simp) heMR rfl rfl rfl ⟨by decide, by decide⟩ (Nat.le_of_ble_eq_true rfl) ⟨show cells ≤ 603072 by omega, show slots ≤ 7219306 by omega⟩ dL_law_1130 ?_
  refine k_aload_n E 3 rfl rfl dL_law_1133 ?_
  refine k_callWV0 [] E hA hMo cf_X3_batches q_848 [] ((oL k ao lf :: MR) ++ [oD k ad df]) rfl heMO rfl rfl rfl ⟨show f + 1 ≤ 21 by omega, show 8 + (1 + 11) + lo ≤ 10870 by omega⟩ (Nat.le_of_ble_eq_true rfl) ⟨show cells + 0 ≤ 603072 by omega, show slots + 0 ≤ 7219306 by omega⟩ dL_law_1134 ?_
  refine k_icmp_eq E (tgt := 1730) (by decide) dL_law_1137 (fun _ => ?_) (fun q => absurd rfl q)
  exact k_lv [0, 1, 2, 3, 4, 5] rfl K
set_option maxRecDepth 100000 in
theorem g_stateOf {p : Program} {e : Env} {s : State} {m : MethodId} {args : Array Value} {below : List Frame} {meth : Method} {c : Code} {Q : State → Prop} {A : Nat → Prop} {l : Launch} {D : va_G} {k : Nat → ClassId} {cells slots sc L ip aR aM ao ad : Nat} {xs : Nat → Int32} (E : kE p s m args c "MilkRoundLaw" cL_law 9 D (kTy k) (gW D A s.heap)) (hA : ∀ q, s.heap.size ≤ q → A q) (hZ : kZ A s s.heap) (hX : va_X sc L xs s s.heap) (hbl : sc < s.heap.size) (hbA : ¬ A sc) (hL : L ≤ 1536) (hip : ip + 3 ≤ L) (x1 : Int32) (hx1 : xs (ip + 1) = x1) {MR MR' : va_W} {lf lf' : Nat → Int64} {df : Nat → UInt64} {r : Int32} (hW : mH l yL_stateOf cL_stateOf 4 (some .int) [(0, 9, 12, 21)] 14 700 4 24 D (kTy k) [.ref aR, .int x1, .ref ao] (oL k ao lf :: MR) (.inl (some (.int r), oL k ao lf' :: MR'))) {MO MO' : va_W} {fs1 fs2 : List Value} (heMO : MO[0]? = some (aM, .inr (3, fs1))) (heMO' : MO'[0]? = some (aM, .inr (3, fs2))) {f lo : Nat} (hf : f ≤ 16) (hlo : lo ≤ 800) {v : Int32} (hMo : mW l yX3_stateOf cX3_stateOf 2 (some .char) f lo 0 0 D (kTy k) [.ref aM, .int x1] MO (some (.int v)) MO') (hTh : mR l yX3_thrown cX3_thrown 1 (some .int) 0 0 D (kTy k) [.ref aM] MO' (some (.int r))) (hres : r = 0 → lf' 0 = v.toInt64) (hcap : cells + 4 ≤ 603072 ∧ slots + 24 ≤ 7219306) (K : kJ p l e (kRmc 21 10870 603072 7219306) s m args below meth c (gW D A s.heap) 9 (cells + 4) (slots + 24) Q (MO' ++ ((oL k ao lf' :: MR') ++ [oD k ad df])) 1730 [(5, .int (nI ip)), (0, .ref sc), (1, .ref aR), (2, .ref aM), (3, .ref ao), (4, .ref ad)] []) : kJ p l e (kRmc 21 10870 603072 7219306) s m args below meth c (gW D A s.heap) 9 cells slots Q (MO ++ ((oL k ao lf :: MR) ++ [oD k ad df])) 1142 [(5, .int (nI ip)), (0, .ref sc), (1, .ref aR), (2, .ref aM), (3, .ref ao), (4, .ref ad)] [] := by
  refine k_aload_n E 2 rfl rfl dL_law_1142 ?_
  refine k_aload_n E 1 rfl rfl dL_law_1143 ?_
  refine k_iload E 0 rfl dL_law_1144 ?_
  refine k_iconst E (v := 1) (by decide) dL_law_1146 ?_
  refine k_iadd E dL_law_1147 ?_
  refine k_steq (st' := .int (nI (ip + 1)) :: [.ref sc, .ref aR]) (by rw [show nI ip + 1 = nI (ip + 1) from nI_add ip 1]; all_goals rfl) ?_
  refine k_sld E hX hbl hbA (by omega) hL hx1 dL_law_1148 ?_
  refine k_aload_n E 4 rfl rfl dL_law_1149 ?_
  refine k_callXS [.ref aR, .int x1, .ref ao] E hA hZ hW cf_L_stateOf q_536 MO [oD k ad df] rfl rfl rfl ⟨by decide, by decide⟩ (Nat.le_of_ble_eq_true rfl) hcap dL_law_1150 ?_
  refine k_istore (lv' := [(6, .int r), (5, .int (nI ip)), (0, .ref sc), (1, .ref aR), (2, .ref aM), (3, .ref ao), (4, .ref ad)]) E (by decide) rfl dL_law_1153 ?_
  refine k_aload_n E 4 rfl rfl dL_law_1155 ?_
  refine k_aload_n E 2 rfl rfl dL_law_1156 ?_
  refine k_iload E 1 rfl dL_law_1157 ?_
  refine k_iconst E (v := 1) (by decide) dL_law_1159 ?_
  refine k_iadd E dL_law_1160 ?_
  refine k_steq (st' := .int (nI (ip + 1)) :: [.ref sc, .ref aM]) (by rw [show nI ip + 1 = nI (ip + 1) from nI_add ip 1]; all_goals rfl) ?_
  refine k_sld E hX hbl hbA (by omega) hL hx1 dL_law_1161 ?_
  refine k_callWV0 [.int x1] E hA hMo cf_X3_stateOf q_852 [] ((oL k ao lf' :: MR') ++ [oD k ad df]) rfl heMO rfl rfl rfl ⟨show f + 1 ≤ 21 by omega, show 8 + (2 + 11) + lo ≤ 10870 by omega⟩ (Nat.le_of_ble_eq_true rfl) ⟨show cells + 4 + 0 ≤ 603072 by omega, show slots + 24 + 0 ≤ 7219306 by omega⟩ dL_law_1162 ?_
  refine k_istore (lv' := [(7, .int v), (6, .int r), (5, .int (nI ip)), (0, .ref sc), (1, .ref aR), (2, .ref aM), (3, .ref ao), (4, .ref ad)]) E (by decide) rfl dL_law_1165 ?_
  refine k_aload_n E 5 rfl rfl dL_law_1167 ?_
  refine k_callRV0 [] E hTh cf_X3_thrown q_739 [] ((oL k ao lf' :: MR') ++ [oD k ad df]) rfl heMO' rfl rfl rfl ⟨by decide, by decide⟩ (Nat.le_of_ble_eq_true rfl) ⟨show cells + 4 ≤ 603072 by omega, show slots + 24 ≤ 7219306 by omega⟩ dL_law_1168 ?_
  refine k_iload E 1 rfl dL_law_1171 ?_
  refine k_icmp_eq E (tgt := 1178) (by decide) dL_law_1173 (fun _ => ?_) (fun q => absurd rfl q)
  refine k_iload E 1 rfl dL_law_1178 ?_
  refine k_if_ne E (tgt := 1195) (by decide) dL_law_1180 (fun hr0 => ?_) (fun hr0 => ?_)
  · skip
    refine k_goto E (tgt := 1730) (by decide) dL_law_1195 ?_
    exact k_lv [2, 3, 4, 5, 6, 7] rfl K
  · skip
    refine k_aload_n E 6 rfl rfl dL_law_1183 ?_
    refine k_iconst E (v := 0) (by decide) dL_law_1184 ?_
    refine k_lald E (n := 1) (f := lf') MO'.length 3 (by simp) rfl (j := 0) rfl (by decide) (by decide) dL_law_1185 ?_
    refine k_iload E 0 rfl dL_law_1186 ?_
    refine k_i2l E (v := v.toInt64) rfl dL_law_1188 ?_
    refine k_lcmp E dL_law_1189 ?_
    refine k_if_eq E (tgt := 1195) (by decide) dL_law_1190 (fun _ => ?_) (fun q => absurd (by rw [hres hr0]; exact lg_self _) q)
    refine k_goto E (tgt := 1730) (by decide) dL_law_1195 ?_
    exact k_lv [2, 3, 4, 5, 6, 7] rfl K
set_option maxRecDepth 100000 in
theorem g_share {p : Program} {e : Env} {s : State} {m : MethodId} {args : Array Value} {below : List Frame} {meth : Method} {c : Code} {Q : State → Prop} {A : Nat → Prop} {l : Launch} {D : va_G} {k : Nat → ClassId} {cells slots sc L ip aR aM ao ad : Nat} {xs : Nat → Int32} (E : kE p s m args c "MilkRoundLaw" cL_law 9 D (kTy k) (gW D A s.heap)) (hA : ∀ q, s.heap.size ≤ q → A q) (hZ : kZ A s s.heap) (hX : va_X sc L xs s s.heap) (hbl : sc < s.heap.size) (hbA : ¬ A sc) (hL : L ≤ 1536) (hip : ip + 3 ≤ L) (x1 : Int32) (hx1 : xs (ip + 1) = x1) (x2 : Int32) (hx2 : xs (ip + 2) = x2) {MR MR' : va_W} {lf lf' : Nat → Int64} {df : Nat → UInt64} {r : Int32} (hW : mH l yL_share cL_share 5 (some .int) [(0, 10, 13, 21), (0, 10, 17, 53)] 14 700 4 24 D (kTy k) [.ref aR, .int x1, .int x2, .ref ao] (oL k ao lf :: MR) (.inl (some (.int r), oL k ao lf' :: MR'))) {MO MO' : va_W} {fs1 fs2 : List Value} (heMO : MO[0]? = some (aM, .inr (3, fs1))) (heMO' : MO'[0]? = some (aM, .inr (3, fs2))) {f lo : Nat} (hf : f ≤ 16) (hlo : lo ≤ 800) {v : Int32} (hMo : mW l yX3_share cX3_share 5 (some .int) f lo 0 0 D (kTy k) [.ref aM, .int x1, .int x2] MO (some (.int v)) MO') (hTh : mR l yX3_thrown cX3_thrown 1 (some .int) 0 0 D (kTy k) [.ref aM] MO' (some (.int r))) (hres : r = 0 → lf' 0 = v.toInt64) (hcap : cells + 4 ≤ 603072 ∧ slots + 24 ≤ 7219306) (K : kJ p l e (kRmc 21 10870 603072 7219306) s m args below meth c (gW D A s.heap) 9 (cells + 4) (slots + 24) Q (MO' ++ ((oL k ao lf' :: MR') ++ [oD k ad df])) 1730 [(5, .int (nI ip)), (0, .ref sc), (1, .ref aR), (2, .ref aM), (3, .ref ao), (4, .ref ad)] []) : kJ p l e (kRmc 21 10870 603072 7219306) s m args below meth c (gW D A s.heap) 9 cells slots Q (MO ++ ((oL k ao lf :: MR) ++ [oD k ad df])) 1198 [(5, .int (nI ip)), (0, .ref sc), (1, .ref aR), (2, .ref aM), (3, .ref ao), (4, .ref ad)] [] := by
  refine k_aload_n E 2 rfl rfl dL_law_1198 ?_
  refine k_aload_n E 1 rfl rfl dL_law_1199 ?_
  refine k_iload E 0 rfl dL_law_1200 ?_
  refine k_iconst E (v := 1) (by decide) dL_law_1202 ?_
  refine k_iadd E dL_law_1203 ?_
  refine k_steq (st' := .int (nI (ip + 1)) :: [.ref sc, .ref aR]) (by rw [show nI ip + 1 = nI (ip + 1) from nI_add ip 1]; all_goals rfl) ?_
  refine k_sld E hX hbl hbA (by omega) hL hx1 dL_law_1204 ?_
  refine k_aload_n E 1 rfl rfl dL_law_1205 ?_
  refine k_iload E 0 rfl dL_law_1206 ?_
  refine k_iconst E (v := 2) (by decide) dL_law_1208 ?_
  refine k_iadd E dL_law_1209 ?_
  refine k_steq (st' := .int (nI (ip + 2)) :: [.ref sc, .int x1, .ref aR]) (by rw [show nI ip + 2 = nI (ip + 2) from nI_add ip 2]; all_goals rfl) ?_
  refine k_sld E hX hbl hbA (by omega) hL hx2 dL_law_1210 ?_
  refine k_aload_n E 4 rfl rfl dL_law_1211 ?_
  refine k_callXS [.ref aR, .int x1, .int x2, .ref ao] E hA hZ hW cf_L_share q_553 MO [oD k ad df] rfl rfl rfl ⟨by decide, by decide⟩ (Nat.le_of_ble_eq_true rfl) hcap dL_law_1212 ?_
  refine k_istore (lv' := [(6, .int r), (5, .int (nI ip)), (0, .ref sc), (1, .ref aR), (2, .ref aM), (3, .ref ao), (4, .ref ad)]) E (by decide) rfl dL_law_1215 ?_
  refine k_aload_n E 4 rfl rfl dL_law_1217 ?_
  refine k_aload_n E 2 rfl rfl dL_law_1218 ?_
  refine k_iload E 1 rfl dL_law_1219 ?_
  refine k_iconst E (v := 1) (by decide) dL_law_1221 ?_
  refine k_iadd E dL_law_1222 ?_
  refine k_steq (st' := .int (nI (ip + 1)) :: [.ref sc, .ref aM]) (by rw [show nI ip + 1 = nI (ip + 1) from nI_add ip 1]; all_goals rfl) ?_
  refine k_sld E hX hbl hbA (by omega) hL hx1 dL_law_1223 ?_
  refine k_aload_n E 2 rfl rfl dL_law_1224 ?_
  refine k_iload E 1 rfl dL_law_1225 ?_
  refine k_iconst E (v := 2) (by decide) dL_law_1227 ?_
  refine k_iadd E dL_law_1228 ?_
  refine k_steq (st' := .int (nI (ip + 2)) :: [.ref sc, .int x1, .ref aM]) (by rw [show nI ip + 2 = nI (ip + 2) from nI_add ip 2]; all_goals rfl) ?_
  refine k_sld E hX hbl hbA (by omega) hL hx2 dL_law_1229 ?_
  refine k_callWV0 [.int x1, .int x2] E hA hMo cf_X3_share q_864 [] ((oL k ao lf' :: MR') ++ [oD k ad df]) rfl heMO rfl rfl rfl ⟨show f + 1 ≤ 21 by omega, show 8 + (5 + 11) + lo ≤ 10870 by omega⟩ (Nat.le_of_ble_eq_true rfl) ⟨show cells + 4 + 0 ≤ 603072 by omega, show slots + 24 + 0 ≤ 7219306 by omega⟩ dL_law_1230 ?_
  refine k_istore (lv' := [(7, .int v), (6, .int r), (5, .int (nI ip)), (0, .ref sc), (1, .ref aR), (2, .ref aM), (3, .ref ao), (4, .ref ad)]) E (by decide) rfl dL_law_1233 ?_
  refine k_aload_n E 5 rfl rfl dL_law_1235 ?_
  refine k_callRV0 [] E hTh cf_X3_thrown q_739 [] ((oL k ao lf' :: MR') ++ [oD k ad df]) rfl heMO' rfl rfl rfl ⟨by decide, by decide⟩ (Nat.le_of_ble_eq_true rfl) ⟨show cells + 4 ≤ 603072 by omega, show slots + 24 ≤ 7219306 by omega⟩ dL_law_1236 ?_
  refine k_iload E 1 rfl dL_law_1239 ?_
  refine k_icmp_eq E (tgt := 1246) (by decide) dL_law_1241 (fun _ => ?_) (fun q => absurd rfl q)
  refine k_iload E 1 rfl dL_law_1246 ?_
  refine k_if_ne E (tgt := 1263) (by decide) dL_law_1248 (fun hr0 => ?_) (fun hr0 => ?_)
  · skip
    refine k_goto E (tgt := 1730) (by decide) dL_law_1263 ?_
    exact k_lv [2, 3, 4, 5, 6, 7] rfl K
  · skip
    refine k_aload_n E 6 rfl rfl dL_law_1251 ?_
    refine k_iconst E (v := 0) (by decide) dL_law_1252 ?_
    refine k_lald E (n := 1) (f := lf') MO'.length 3 (by simp) rfl (j := 0) rfl (by decide) (by decide) dL_law_1253 ?_
    refine k_iload E 0 rfl dL_law_1254 ?_
    refine k_i2l E (v := v.toInt64) rfl dL_law_1256 ?_
    refine k_lcmp E dL_law_1257 ?_
    refine k_if_eq E (tgt := 1263) (by decide) dL_law_1258 (fun _ => ?_) (fun q => absurd (by rw [hres hr0]; exact lg_self _) q)
    refine k_goto E (tgt := 1730) (by decide) dL_law_1263 ?_
    exact k_lv [2, 3, 4, 5, 6, 7] rfl K
set_option maxRecDepth 100000 in
theorem g_worth {p : Program} {e : Env} {s : State} {m : MethodId} {args : Array Value} {below : List Frame} {meth : Method} {c : Code} {Q : State → Prop} {A : Nat → Prop} {l : Launch} {D : va_G} {k : Nat → ClassId} {cells slots sc L ip aR aM ao ad : Nat} {xs : Nat → Int32} (E : kE p s m args c "MilkRoundLaw" cL_law 9 D (kTy k) (gW D A s.heap)) (hA : ∀ q, s.heap.size ≤ q → A q) (hZ : kZ A s s.heap) (hX : va_X sc L xs s s.heap) (hbl : sc < s.heap.size) (hbA : ¬ A sc) (hL : L ≤ 1536) (hip : ip + 3 ≤ L) (x1 : Int32) (hx1 : xs (ip + 1) = x1) {MR MR' : va_W} {lf lf' : Nat → Int64} {df : Nat → UInt64} {r : Int32} (hW : mH l yL_worth cL_worth 4 (some .int) [(0, 9, 12, 21), (0, 9, 15, 45)] 14 700 4 24 D (kTy k) [.ref aR, .int x1, .ref ao] (oL k ao lf :: MR) (.inl (some (.int r), oL k ao lf' :: MR'))) {MO MO' : va_W} {fs1 fs2 : List Value} (heMO : MO[0]? = some (aM, .inr (3, fs1))) (heMO' : MO'[0]? = some (aM, .inr (3, fs2))) {f lo : Nat} (hf : f ≤ 16) (hlo : lo ≤ 800) {v : Int32} (hMo : mW l yX3_worth cX3_worth 4 (some .int) f lo 0 0 D (kTy k) [.ref aM, .int x1] MO (some (.int v)) MO') (hTh : mR l yX3_thrown cX3_thrown 1 (some .int) 0 0 D (kTy k) [.ref aM] MO' (some (.int r))) (hres : r = 0 → lf' 0 = v.toInt64) (hcap : cells + 4 ≤ 603072 ∧ slots + 24 ≤ 7219306) (K : kJ p l e (kRmc 21 10870 603072 7219306) s m args below meth c (gW D A s.heap) 9 (cells + 4) (slots + 24) Q (MO' ++ ((oL k ao lf' :: MR') ++ [oD k ad df])) 1730 [(5, .int (nI ip)), (0, .ref sc), (1, .ref aR), (2, .ref aM), (3, .ref ao), (4, .ref ad)] []) : kJ p l e (kRmc 21 10870 603072 7219306) s m args below meth c (gW D A s.heap) 9 cells slots Q (MO ++ ((oL k ao lf :: MR) ++ [oD k ad df])) 1266 [(5, .int (nI ip)), (0, .ref sc), (1, .ref aR), (2, .ref aM), (3, .ref ao), (4, .ref ad)] [] := by
  refine k_aload_n E 2 rfl rfl dL_law_1266 ?_
  refine k_aload_n E 1 rfl rfl dL_law_1267 ?_
  refine k_iload E 0 rfl dL_law_1268 ?_
  refine k_iconst E (v := 1) (by decide) dL_law_1270 ?_
  refine k_iadd E dL_law_1271 ?_
  refine k_steq (st' := .int (nI (ip + 1)) :: [.ref sc, .ref aR]) (by rw [show nI ip + 1 = nI (ip + 1) from nI_add ip 1]; all_goals rfl) ?_
  refine k_sld E hX hbl hbA (by omega) hL hx1 dL_law_1272 ?_
  refine k_aload_n E 4 rfl rfl dL_law_1273 ?_
  refine k_callXS [.ref aR, .int x1, .ref ao] E hA hZ hW cf_L_worth q_565 MO [oD k ad df] rfl rfl rfl ⟨by decide, by decide⟩ (Nat.le_of_ble_eq_true rfl) hcap dL_law_1274 ?_
  refine k_istore (lv' := [(6, .int r), (5, .int (nI ip)), (0, .ref sc), (1, .ref aR), (2, .ref aM), (3, .ref ao), (4, .ref ad)]) E (by decide) rfl dL_law_1277 ?_
  refine k_aload_n E 4 rfl rfl dL_law_1279 ?_
  refine k_aload_n E 2 rfl rfl dL_law_1280 ?_
  refine k_iload E 1 rfl dL_law_1281 ?_
  refine k_iconst E (v := 1) (by decide) dL_law_1283 ?_
  refine k_iadd E dL_law_1284 ?_
  refine k_steq (st' := .int (nI (ip + 1)) :: [.ref sc, .ref aM]) (by rw [show nI ip + 1 = nI (ip + 1) from nI_add ip 1]; all_goals rfl) ?_
  refine k_sld E hX hbl hbA (by omega) hL hx1 dL_law_1285 ?_
  refine k_callWV0 [.int x1] E hA hMo cf_X3_worth q_868 [] ((oL k ao lf' :: MR') ++ [oD k ad df]) rfl heMO rfl rfl rfl ⟨show f + 1 ≤ 21 by omega, show 8 + (4 + 11) + lo ≤ 10870 by omega⟩ (Nat.le_of_ble_eq_true rfl) ⟨show cells + 4 + 0 ≤ 603072 by omega, show slots + 24 + 0 ≤ 7219306 by omega⟩ dL_law_1286 ?_
  refine k_istore (lv' := [(7, .int v), (6, .int r), (5, .int (nI ip)), (0, .ref sc), (1, .ref aR), (2, .ref aM), (3, .ref ao), (4, .ref ad)]) E (by decide) rfl dL_law_1289 ?_
  refine k_aload_n E 5 rfl rfl dL_law_1291 ?_
  refine k_callRV0 [] E hTh cf_X3_thrown q_739 [] ((oL k ao lf' :: MR') ++ [oD k ad df]) rfl heMO' rfl rfl rfl ⟨by decide, by decide⟩ (Nat.le_of_ble_eq_true rfl) ⟨show cells + 4 ≤ 603072 by omega, show slots + 24 ≤ 7219306 by omega⟩ dL_law_1292 ?_
  refine k_iload E 1 rfl dL_law_1295 ?_
  refine k_icmp_eq E (tgt := 1302) (by decide) dL_law_1297 (fun _ => ?_) (fun q => absurd rfl q)
  refine k_iload E 1 rfl dL_law_1302 ?_
  refine k_if_ne E (tgt := 1319) (by decide) dL_law_1304 (fun hr0 => ?_) (fun hr0 => ?_)
  · skip
    refine k_goto E (tgt := 1730) (by decide) dL_law_1319 ?_
    exact k_lv [2, 3, 4, 5, 6, 7] rfl K
  · skip
    refine k_aload_n E 6 rfl rfl dL_law_1307 ?_
    refine k_iconst E (v := 0) (by decide) dL_law_1308 ?_
    refine k_lald E (n := 1) (f := lf') MO'.length 3 (by simp) rfl (j := 0) rfl (by decide) (by decide) dL_law_1309 ?_
    refine k_iload E 0 rfl dL_law_1310 ?_
    refine k_i2l E (v := v.toInt64) rfl dL_law_1312 ?_
    refine k_lcmp E dL_law_1313 ?_
    refine k_if_eq E (tgt := 1319) (by decide) dL_law_1314 (fun _ => ?_) (fun q => absurd (by rw [hres hr0]; exact lg_self _) q)
    refine k_goto E (tgt := 1730) (by decide) dL_law_1319 ?_
    exact k_lv [2, 3, 4, 5, 6, 7] rfl K
set_option maxRecDepth 100000 in
theorem g_loss {p : Program} {e : Env} {s : State} {m : MethodId} {args : Array Value} {below : List Frame} {meth : Method} {c : Code} {Q : State → Prop} {A : Nat → Prop} {l : Launch} {D : va_G} {k : Nat → ClassId} {cells slots sc L ip aR aM ao ad : Nat} {xs : Nat → Int32} (E : kE p s m args c "MilkRoundLaw" cL_law 9 D (kTy k) (gW D A s.heap)) (hA : ∀ q, s.heap.size ≤ q → A q) (hZ : kZ A s s.heap) (hX : va_X sc L xs s s.heap) (hbl : sc < s.heap.size) (hbA : ¬ A sc) (hL : L ≤ 1536) (hip : ip + 3 ≤ L) (x1 : Int32) (hx1 : xs (ip + 1) = x1) {MR MR' : va_W} {lf lf' : Nat → Int64} {df : Nat → UInt64} {r : Int32} (hW : mH l yL_loss cL_loss 4 (some .int) [(0, 9, 12, 21), (0, 9, 15, 45)] 14 700 4 24 D (kTy k) [.ref aR, .int x1, .ref ao] (oL k ao lf :: MR) (.inl (some (.int r), oL k ao lf' :: MR'))) {MO MO' : va_W} {fs1 fs2 : List Value} (heMO : MO[0]? = some (aM, .inr (3, fs1))) (heMO' : MO'[0]? = some (aM, .inr (3, fs2))) {f lo : Nat} (hf : f ≤ 16) (hlo : lo ≤ 800) {v : Int32} (hMo : mW l yX3_loss cX3_loss 2 (some .int) f lo 0 0 D (kTy k) [.ref aM, .int x1] MO (some (.int v)) MO') (hTh : mR l yX3_thrown cX3_thrown 1 (some .int) 0 0 D (kTy k) [.ref aM] MO' (some (.int r))) (hres : r = 0 → lf' 0 = v.toInt64) (hcap : cells + 4 ≤ 603072 ∧ slots + 24 ≤ 7219306) (K : kJ p l e (kRmc 21 10870 603072 7219306) s m args below meth c (gW D A s.heap) 9 (cells + 4) (slots + 24) Q (MO' ++ ((oL k ao lf' :: MR') ++ [oD k ad df])) 1730 [(5, .int (nI ip)), (0, .ref sc), (1, .ref aR), (2, .ref aM), (3, .ref ao), (4, .ref ad)] []) : kJ p l e (kRmc 21 10870 603072 7219306) s m args below meth c (gW D A s.heap) 9 cells slots Q (MO ++ ((oL k ao lf :: MR) ++ [oD k ad df])) 1322 [(5, .int (nI ip)), (0, .ref sc), (1, .ref aR), (2, .ref aM), (3, .ref ao), (4, .ref ad)] [] := by
  refine k_aload_n E 2 rfl rfl dL_law_1322 ?_
  refine k_aload_n E 1 rfl rfl dL_law_1323 ?_
  refine k_iload E 0 rfl dL_law_1324 ?_
  refine k_iconst E (v := 1) (by decide) dL_law_1326 ?_
  refine k_iadd E dL_law_1327 ?_
  refine k_steq (st' := .int (nI (ip + 1)) :: [.ref sc, .ref aR]) (by rw [show nI ip + 1 = nI (ip + 1) from nI_add ip 1]; all_goals rfl) ?_
  refine k_sld E hX hbl hbA (by omega) hL hx1 dL_law_1328 ?_
  refine k_aload_n E 4 rfl rfl dL_law_1329 ?_
  refine k_callXS [.ref aR, .int x1, .ref ao] E hA hZ hW cf_L_loss q_582 MO [oD k ad df] rfl rfl rfl ⟨by decide, by decide⟩ (Nat.le_of_ble_eq_true rfl) hcap dL_law_1330 ?_
  refine k_istore (lv' := [(6, .int r), (5, .int (nI ip)), (0, .ref sc), (1, .ref aR), (2, .ref aM), (3, .ref ao), (4, .ref ad)]) E (by decide) rfl dL_law_1333 ?_
  refine k_aload_n E 4 rfl rfl dL_law_1335 ?_
  refine k_aload_n E 2 rfl rfl dL_law_1336 ?_
  refine k_iload E 1 rfl dL_law_1337 ?_
  refine k_iconst E (v := 1) (by decide) dL_law_1339 ?_
  refine k_iadd E dL_law_1340 ?_
  refine k_steq (st' := .int (nI (ip + 1)) :: [.ref sc, .ref aM]) (by rw [show nI ip + 1 = nI (ip + 1) from nI_add ip 1]; all_goals rfl) ?_
  refine k_sld E hX hbl hbA (by omega) hL hx1 dL_law_1341 ?_
  refine k_callWV0 [.int x1] E hA hMo cf_X3_loss q_884 [] ((oL k ao lf' :: MR') ++ [oD k ad df]) rfl heMO rfl rfl rfl ⟨show f + 1 ≤ 21 by omega, show 8 + (2 + 11) + lo ≤ 10870 by omega⟩ (Nat.le_of_ble_eq_true rfl) ⟨show cells + 4 + 0 ≤ 603072 by omega, show slots + 24 + 0 ≤ 7219306 by omega⟩ dL_law_1342 ?_
  refine k_istore (lv' := [(7, .int v), (6, .int r), (5, .int (nI ip)), (0, .ref sc), (1, .ref aR), (2, .ref aM), (3, .ref ao), (4, .ref ad)]) E (by decide) rfl dL_law_1345 ?_
  refine k_aload_n E 5 rfl rfl dL_law_1347 ?_
  refine k_callRV0 [] E hTh cf_X3_thrown q_739 [] ((oL k ao lf' :: MR') ++ [oD k ad df]) rfl heMO' rfl rfl rfl ⟨by decide, by decide⟩ (Nat.le_of_ble_eq_true rfl) ⟨show cells + 4 ≤ 603072 by omega, show slots + 24 ≤ 7219306 by omega⟩ dL_law_1348 ?_
  refine k_iload E 1 rfl dL_law_1351 ?_
  refine k_icmp_eq E (tgt := 1358) (by decide) dL_law_1353 (fun _ => ?_) (fun q => absurd rfl q)
  refine k_iload E 1 rfl dL_law_1358 ?_
  refine k_if_ne E (tgt := 1375) (by decide) dL_law_1360 (fun hr0 => ?_) (fun hr0 => ?_)
  · skip
    refine k_goto E (tgt := 1730) (by decide) dL_law_1375 ?_
    exact k_lv [2, 3, 4, 5, 6, 7] rfl K
  · skip
    refine k_aload_n E 6 rfl rfl dL_law_1363 ?_
    refine k_iconst E (v := 0) (by decide) dL_law_1364 ?_
    refine k_lald E (n := 1) (f := lf') MO'.length 3 (by simp) rfl (j := 0) rfl (by decide) (by decide) dL_law_1365 ?_
    refine k_iload E 0 rfl dL_law_1366 ?_
    refine k_i2l E (v := v.toInt64) rfl dL_law_1368 ?_
    refine k_lcmp E dL_law_1369 ?_
    refine k_if_eq E (tgt := 1375) (by decide) dL_law_1370 (fun _ => ?_) (fun q => absurd (by rw [hres hr0]; exact lg_self _) q)
    refine k_goto E (tgt := 1730) (by decide) dL_law_1375 ?_
    exact k_lv [2, 3, 4, 5, 6, 7] rfl K
set_option maxRecDepth 100000 in
theorem g_pay {p : Program} {e : Env} {s : State} {m : MethodId} {args : Array Value} {below : List Frame} {meth : Method} {c : Code} {Q : State → Prop} {A : Nat → Prop} {l : Launch} {D : va_G} {k : Nat → ClassId} {cells slots sc L ip aR aM ao ad : Nat} {xs : Nat → Int32} (E : kE p s m args c "MilkRoundLaw" cL_law 9 D (kTy k) (gW D A s.heap)) (hA : ∀ q, s.heap.size ≤ q → A q) (hZ : kZ A s s.heap) (hX : va_X sc L xs s s.heap) (hbl : sc < s.heap.size) (hbA : ¬ A sc) (hL : L ≤ 1536) (hip : ip + 3 ≤ L) (x1 : Int32) (hx1 : xs (ip + 1) = x1) {MR MR' : va_W} {lf lf' : Nat → Int64} {df : Nat → UInt64} {r : Int32} (hW : mH l yL_pay cL_pay 4 (some .int) [(0, 8, 11, 21)] 14 700 4 24 D (kTy k) [.ref aR, .int x1, .ref ao] (oL k ao lf :: MR) (.inl (some (.int r), oL k ao lf' :: MR'))) {MO MO' : va_W} {fs1 fs2 : List Value} (heMO : MO[0]? = some (aM, .inr (3, fs1))) (heMO' : MO'[0]? = some (aM, .inr (3, fs2))) {f lo : Nat} (hf : f ≤ 16) (hlo : lo ≤ 800) {v : Int64} (hMo : mW l yX3_pay cX3_pay 5 (some .long) f lo 0 0 D (kTy k) [.ref aM, .int x1] MO (some (.long v)) MO') (hTh : mR l yX3_thrown cX3_thrown 1 (some .int) 0 0 D (kTy k) [.ref aM] MO' (some (.int r))) (hres : r = 0 → lf' 0 = v) (hcap : cells + 4 ≤ 603072 ∧ slots + 24 ≤ 7219306) (K : kJ p l e (kRmc 21 10870 603072 7219306) s m args below meth c (gW D A s.heap) 9 (cells + 4) (slots + 24) Q (MO' ++ ((oL k ao lf' :: MR') ++ [oD k ad df])) 1730 [(5, .int (nI ip)), (0, .ref sc), (1, .ref aR), (2, .ref aM), (3, .ref ao), (4, .ref ad)] []) : kJ p l e (kRmc 21 10870 603072 7219306) s m args below meth c (gW D A s.heap) 9 cells slots Q (MO ++ ((oL k ao lf :: MR) ++ [oD k ad df])) 1378 [(5, .int (nI ip)), (0, .ref sc), (1, .ref aR), (2, .ref aM), (3, .ref ao), (4, .ref ad)] [] := by
  refine k_aload_n E 2 rfl rfl dL_law_1378 ?_
  refine k_aload_n E 1 rfl rfl dL_law_1379 ?_
  refine k_iload E 0 rfl dL_law_1380 ?_
  refine k_iconst E (v := 1) (by decide) dL_law_1382 ?_
  refine k_iadd E dL_law_1383 ?_
  refine k_steq (st' := .int (nI (ip + 1)) :: [.ref sc, .ref aR]) (by rw [show nI ip + 1 = nI (ip + 1) from nI_add ip 1]; all_goals rfl) ?_
  refine k_sld E hX hbl hbA (by omega) hL hx1 dL_law_1384 ?_
  refine k_aload_n E 4 rfl rfl dL_law_1385 ?_
  refine k_callXS [.ref aR, .int x1, .ref ao] E hA hZ hW cf_L_pay q_593 MO [oD k ad df] rfl rfl rfl ⟨by decide, by decide⟩ (Nat.le_of_ble_eq_true rfl) hcap dL_law_1386 ?_
  refine k_istore (lv' := [(6, .int r), (5, .int (nI ip)), (0, .ref sc), (1, .ref aR), (2, .ref aM), (3, .ref ao), (4, .ref ad)]) E (by decide) rfl dL_law_1389 ?_
  refine k_aload_n E 4 rfl rfl dL_law_1391 ?_
  refine k_aload_n E 2 rfl rfl dL_law_1392 ?_
  refine k_iload E 1 rfl dL_law_1393 ?_
  refine k_iconst E (v := 1) (by decide) dL_law_1395 ?_
  refine k_iadd E dL_law_1396 ?_
  refine k_steq (st' := .int (nI (ip + 1)) :: [.ref sc, .ref aM]) (by rw [show nI ip + 1 = nI (ip + 1) from nI_add ip 1]; all_goals rfl) ?_
  refine k_sld E hX hbl hbA (by omega) hL hx1 dL_law_1397 ?_
  refine k_callWV0 [.int x1] E hA hMo cf_X3_pay q_892 [] ((oL k ao lf' :: MR') ++ [oD k ad df]) rfl heMO rfl rfl rfl ⟨show f + 1 ≤ 21 by omega, show 8 + (5 + 11) + lo ≤ 10870 by omega⟩ (Nat.le_of_ble_eq_true rfl) ⟨show cells + 4 + 0 ≤ 603072 by omega, show slots + 24 + 0 ≤ 7219306 by omega⟩ dL_law_1398 ?_
  refine k_lstore (lv' := [(7, .long v), (6, .int r), (5, .int (nI ip)), (0, .ref sc), (1, .ref aR), (2, .ref aM), (3, .ref ao), (4, .ref ad)]) E (by decide) rfl dL_law_1401 ?_
  refine k_aload_n E 5 rfl rfl dL_law_1403 ?_
  refine k_callRV0 [] E hTh cf_X3_thrown q_739 [] ((oL k ao lf' :: MR') ++ [oD k ad df]) rfl heMO' rfl rfl rfl ⟨by decide, by decide⟩ (Nat.le_of_ble_eq_true rfl) ⟨show cells + 4 ≤ 603072 by omega, show slots + 24 ≤ 7219306 by omega⟩ dL_law_1404 ?_
  refine k_iload E 1 rfl dL_law_1407 ?_
  refine k_icmp_eq E (tgt := 1414) (by decide) dL_law_1409 (fun _ => ?_) (fun q => absurd rfl q)
  refine k_iload E 1 rfl dL_law_1414 ?_
  refine k_if_ne E (tgt := 1430) (by decide) dL_law_1416 (fun hr0 => ?_) (fun hr0 => ?_)
  · skip
    refine k_goto E (tgt := 1730) (by decide) dL_law_1430 ?_
    exact k_lv [2, 3, 4, 5, 6, 7] rfl K
  · skip
    refine k_aload_n E 6 rfl rfl dL_law_1419 ?_
    refine k_iconst E (v := 0) (by decide) dL_law_1420 ?_
    refine k_lald E (n := 1) (f := lf') MO'.length 3 (by simp) rfl (j := 0) rfl (by decide) (by decide) dL_law_1421 ?_
    refine k_lload E 0 rfl dL_law_1422 ?_
    refine k_lcmp E dL_law_1424 ?_
    refine k_if_eq E (tgt := 1430) (by decide) dL_law_1425 (fun _ => ?_) (fun q => absurd (by rw [hres hr0]; exact lg_self _) q)
    refine k_goto E (tgt := 1730) (by decide) dL_law_1430 ?_
    exact k_lv [2, 3, 4, 5, 6, 7] rfl K
set_option maxRecDepth 100000 in
theorem g_blame {p : Program} {e : Env} {s : State} {m : MethodId} {args : Array Value} {below : List Frame} {meth : Method} {c : Code} {Q : State → Prop} {A : Nat → Prop} {l : Launch} {D : va_G} {k : Nat → ClassId} {cells slots sc L ip aR aM ao ad : Nat} {xs : Nat → Int32} (E : kE p s m args c "MilkRoundLaw" cL_law 9 D (kTy k) (gW D A s.heap)) (hA : ∀ q, s.heap.size ≤ q → A q) (hZ : kZ A s s.heap) (hX : va_X sc L xs s s.heap) (hbl : sc < s.heap.size) (hbA : ¬ A sc) (hL : L ≤ 1536) (hip : ip + 3 ≤ L) (x1 : Int32) (hx1 : xs (ip + 1) = x1) {MR MR' : va_W} {lf lf' : Nat → Int64} {df : Nat → UInt64} {r : Int32} (hW : mH l yL_blame cL_blame 4 (some .int) [(0, 8, 11, 21)] 14 700 4 24 D (kTy k) [.ref aR, .int x1, .ref ao] (oL k ao lf :: MR) (.inl (some (.int r), oL k ao lf' :: MR'))) {MO MO' : va_W} {fs1 fs2 : List Value} (heMO : MO[0]? = some (aM, .inr (3, fs1))) (heMO' : MO'[0]? = some (aM, .inr (3, fs2))) {f lo : Nat} (hf : f ≤ 16) (hlo : lo ≤ 800) {v : Int64} (hMo : mW l yX3_blame cX3_blame 5 (some .long) f lo 0 0 D (kTy k) [.ref aM, .int x1] MO (some (.long v)) MO') (hTh : mR l yX3_thrown cX3_thrown 1 (some .int) 0 0 D (kTy k) [.ref aM] MO' (some (.int r))) (hres : r = 0 → lf' 0 = v) (hcap : cells + 4 ≤ 603072 ∧ slots + 24 ≤ 7219306) (K : kJ p l e (kRmc 21 10870 603072 7219306) s m args below meth c (gW D A s.heap) 9 (cells + 4) (slots + 24) Q (MO' ++ ((oL k ao lf' :: MR') ++ [oD k ad df])) 1730 [(5, .int (nI ip)), (0, .ref sc), (1, .ref aR), (2, .ref aM), (3, .ref ao), (4, .ref ad)] []) : kJ p l e (kRmc 21 10870 603072 7219306) s m args below meth c (gW D A s.heap) 9 cells slots Q (MO ++ ((oL k ao lf :: MR) ++ [oD k ad df])) 1433 [(5, .int (nI ip)), (0, .ref sc), (1, .ref aR), (2, .ref aM), (3, .ref ao), (4, .ref ad)] [] := by
  refine k_aload_n E 2 rfl rfl dL_law_1433 ?_
  refine k_aload_n E 1 rfl rfl dL_law_1434 ?_
  refine k_iload E 0 rfl dL_law_1435 ?_
  refine k_iconst E (v := 1) (by decide) dL_law_1437 ?_
  refine k_iadd E dL_law_1438 ?_
  refine k_steq (st' := .int (nI (ip + 1)) :: [.ref sc, .ref aR]) (by rw [show nI ip + 1 = nI (ip + 1) from nI_add ip 1]; all_goals rfl) ?_
  refine k_sld E hX hbl hbA (by omega) hL hx1 dL_law_1439 ?_
  refine k_aload_n E 4 rfl rfl dL_law_1440 ?_
  refine k_callXS [.ref aR, .int x1, .ref ao] E hA hZ hW cf_L_blame q_604 MO [oD k ad df] rfl rfl rfl ⟨by decide, by decide⟩ (Nat.le_of_ble_eq_true rfl) hcap dL_law_1441 ?_
  refine k_istore (lv' := [(6, .int r), (5, .int (nI ip)), (0, .ref sc), (1, .ref aR), (2, .ref aM), (3, .ref ao), (4, .ref ad)]) E (by decide) rfl dL_law_1444 ?_
  refine k_aload_n E 4 rfl rfl dL_law_1446 ?_
  refine k_aload_n E 2 rfl rfl dL_law_1447 ?_
  refine k_iload E 1 rfl dL_law_1448 ?_
  refine k_iconst E (v := 1) (by decide) dL_law_1450 ?_
  refine k_iadd E dL_law_1451 ?_
  refine k_steq (st' := .int (nI (ip + 1)) :: [.ref sc, .ref aM]) (by rw [show nI ip + 1 = nI (ip + 1) from nI_add ip 1]; all_goals rfl) ?_
  refine k_sld E hX hbl hbA (by omega) hL hx1 dL_law_1452 ?_
  refine k_callWV0 [.int x1] E hA hMo cf_X3_blame q_901 [] ((oL k ao lf' :: MR') ++ [oD k ad df]) rfl heMO rfl rfl rfl ⟨show f + 1 ≤ 21 by omega, show 8 + (5 + 11) + lo ≤ 10870 by omega⟩ (Nat.le_of_ble_eq_true rfl) ⟨show cells + 4 + 0 ≤ 603072 by omega, show slots + 24 + 0 ≤ 7219306 by omega⟩ dL_law_1453 ?_
  refine k_lstore (lv' := [(7, .long v), (6, .int r), (5, .int (nI ip)), (0, .ref sc), (1, .ref aR), (2, .ref aM), (3, .ref ao), (4, .ref ad)]) E (by decide) rfl dL_law_1456 ?_
  refine k_aload_n E 5 rfl rfl dL_law_1458 ?_
  refine k_callRV0 [] E hTh cf_X3_thrown q_739 [] ((oL k ao lf' :: MR') ++ [oD k ad df]) rfl heMO' rfl rfl rfl ⟨by decide, by decide⟩ (Nat.le_of_ble_eq_true rfl) ⟨show cells + 4 ≤ 603072 by omega, show slots + 24 ≤ 7219306 by omega⟩ dL_law_1459 ?_
  refine k_iload E 1 rfl dL_law_1462 ?_
  refine k_icmp_eq E (tgt := 1469) (by decide) dL_law_1464 (fun _ => ?_) (fun q => absurd rfl q)
  refine k_iload E 1 rfl dL_law_1469 ?_
  refine k_if_ne E (tgt := 1485) (by decide) dL_law_1471 (fun hr0 => ?_) (fun hr0 => ?_)
  · skip
    refine k_goto E (tgt := 1730) (by decide) dL_law_1485 ?_
    exact k_lv [2, 3, 4, 5, 6, 7] rfl K
  · skip
    refine k_aload_n E 6 rfl rfl dL_law_1474 ?_
    refine k_iconst E (v := 0) (by decide) dL_law_1475 ?_
    refine k_lald E (n := 1) (f := lf') MO'.length 3 (by simp) rfl (j := 0) rfl (by decide) (by decide) dL_law_1476 ?_
    refine k_lload E 0 rfl dL_law_1477 ?_
    refine k_lcmp E dL_law_1479 ?_
    refine k_if_eq E (tgt := 1485) (by decide) dL_law_1480 (fun _ => ?_) (fun q => absurd (by rw [hres hr0]; exact lg_self _) q)
    refine k_goto E (tgt := 1730) (by decide) dL_law_1485 ?_
    exact k_lv [2, 3, 4, 5, 6, 7] rfl K
set_option maxRecDepth 100000 in
theorem g_balanceBySamples {p : Program} {e : Env} {s : State} {m : MethodId} {args : Array Value} {below : List Frame} {meth : Method} {c : Code} {Q : State → Prop} {A : Nat → Prop} {l : Launch} {D : va_G} {k : Nat → ClassId} {cells slots sc L ip aR aM ao ad : Nat} {xs : Nat → Int32} (E : kE p s m args c "MilkRoundLaw" cL_law 9 D (kTy k) (gW D A s.heap)) (hA : ∀ q, s.heap.size ≤ q → A q) (hZ : kZ A s s.heap) (hX : va_X sc L xs s s.heap) (hbl : sc < s.heap.size) (hbA : ¬ A sc) (hL : L ≤ 1536) (hip : ip + 3 ≤ L) (x1 : Int32) (hx1 : xs (ip + 1) = x1) {MR MR' : va_W} {lf lf' : Nat → Int64} {df : Nat → UInt64} {r : Int32} (hW : mH l yL_balanceBySamples cL_balanceBySamples 4 (some .int) [(0, 8, 11, 21)] 14 700 4 24 D (kTy k) [.ref aR, .int x1, .ref ao] (oL k ao lf :: MR) (.inl (some (.int r), oL k ao lf' :: MR'))) {MO MO' : va_W} {fs1 fs2 : List Value} (heMO : MO[0]? = some (aM, .inr (3, fs1))) (heMO' : MO'[0]? = some (aM, .inr (3, fs2))) {f lo : Nat} (hf : f ≤ 16) (hlo : lo ≤ 800) {v : Int64} (hMo : mW l yX3_balanceBySamples cX3_balanceBySamples 2 (some .long) f lo 0 0 D (kTy k) [.ref aM, .int x1] MO (some (.long v)) MO') (hTh : mR l yX3_thrown cX3_thrown 1 (some .int) 0 0 D (kTy k) [.ref aM] MO' (some (.int r))) (hres : r = 0 → lf' 0 = v) (hcap : cells + 4 ≤ 603072 ∧ slots + 24 ≤ 7219306) (K : kJ p l e (kRmc 21 10870 603072 7219306) s m args below meth c (gW D A s.heap) 9 (cells + 4) (slots + 24) Q (MO' ++ ((oL k ao lf' :: MR') ++ [oD k ad df])) 1730 [(5, .int (nI ip)), (0, .ref sc), (1, .ref aR), (2, .ref aM), (3, .ref ao), (4, .ref ad)] []) : kJ p l e (kRmc 21 10870 603072 7219306) s m args below meth c (gW D A s.heap) 9 cells slots Q (MO ++ ((oL k ao lf :: MR) ++ [oD k ad df])) 1488 [(5, .int (nI ip)), (0, .ref sc), (1, .ref aR), (2, .ref aM), (3, .ref ao), (4, .ref ad)] [] := by
  refine k_aload_n E 2 rfl rfl dL_law_1488 ?_
  refine k_aload_n E 1 rfl rfl dL_law_1489 ?_
  refine k_iload E 0 rfl dL_law_1490 ?_
  refine k_iconst E (v := 1) (by decide) dL_law_1492 ?_
  refine k_iadd E dL_law_1493 ?_
  refine k_steq (st' := .int (nI (ip + 1)) :: [.ref sc, .ref aR]) (by rw [show nI ip + 1 = nI (ip + 1) from nI_add ip 1]; all_goals rfl) ?_
  refine k_sld E hX hbl hbA (by omega) hL hx1 dL_law_1494 ?_
  refine k_aload_n E 4 rfl rfl dL_law_1495 ?_
  refine k_callXS [.ref aR, .int x1, .ref ao] E hA hZ hW cf_L_balanceBySamples q_615 MO [oD k ad df] rfl rfl rfl ⟨by decide, by decide⟩ (Nat.le_of_ble_eq_true rfl) hcap dL_law_1496 ?_
  refine k_istore (lv' := [(6, .int r), (5, .int (nI ip)), (0, .ref sc), (1, .ref aR), (2, .ref aM), (3, .ref ao), (4, .ref ad)]) E (by decide) rfl dL_law_1499 ?_
  refine k_aload_n E 4 rfl rfl dL_law_1501 ?_
  refine k_aload_n E 2 rfl rfl dL_law_1502 ?_
  refine k_iload E 1 rfl dL_law_1503 ?_
  refine k_iconst E (v := 1) (by decide) dL_law_1505 ?_
  refine k_iadd E dL_law_1506 ?_
  refine k_steq (st' := .int (nI (ip + 1)) :: [.ref sc, .ref aM]) (by rw [show nI ip + 1 = nI (ip + 1) from nI_add ip 1]; all_goals rfl) ?_
  refine k_sld E hX hbl hbA (by omega) hL hx1 dL_law_1507 ?_
  refine k_callWV0 [.int x1] E hA hMo cf_X3_balanceBySamples q_909 [] ((oL k ao lf' :: MR') ++ [oD k ad df]) rfl heMO rfl rfl rfl ⟨show f + 1 ≤ 21 by omega, show 8 + (2 + 11) + lo ≤ 10870 by omega⟩ (Nat.le_of_ble_eq_true rfl) ⟨show cells + 4 + 0 ≤ 603072 by omega, show slots + 24 + 0 ≤ 7219306 by omega⟩ dL_law_1508 ?_
  refine k_lstore (lv' := [(7, .long v), (6, .int r), (5, .int (nI ip)), (0, .ref sc), (1, .ref aR), (2, .ref aM), (3, .ref ao), (4, .ref ad)]) E (by decide) rfl dL_law_1511 ?_
  refine k_aload_n E 5 rfl rfl dL_law_1513 ?_
  refine k_callRV0 [] E hTh cf_X3_thrown q_739 [] ((oL k ao lf' :: MR') ++ [oD k ad df]) rfl heMO' rfl rfl rfl ⟨by decide, by decide⟩ (Nat.le_of_ble_eq_true rfl) ⟨show cells + 4 ≤ 603072 by omega, show slots + 24 ≤ 7219306 by omega⟩ dL_law_1514 ?_
  refine k_iload E 1 rfl dL_law_1517 ?_
  refine k_icmp_eq E (tgt := 1524) (by decide) dL_law_1519 (fun _ => ?_) (fun q => absurd rfl q)
  refine k_iload E 1 rfl dL_law_1524 ?_
  refine k_if_ne E (tgt := 1540) (by decide) dL_law_1526 (fun hr0 => ?_) (fun hr0 => ?_)
  · skip
    refine k_goto E (tgt := 1730) (by decide) dL_law_1540 ?_
    exact k_lv [2, 3, 4, 5, 6, 7] rfl K
  · skip
    refine k_aload_n E 6 rfl rfl dL_law_1529 ?_
    refine k_iconst E (v := 0) (by decide) dL_law_1530 ?_
    refine k_lald E (n := 1) (f := lf') MO'.length 3 (by simp) rfl (j := 0) rfl (by decide) (by decide) dL_law_1531 ?_
    refine k_lload E 0 rfl dL_law_1532 ?_
    refine k_lcmp E dL_law_1534 ?_
    refine k_if_eq E (tgt := 1540) (by decide) dL_law_1535 (fun _ => ?_) (fun q => absurd (by rw [hres hr0]; exact lg_self _) q)
    refine k_goto E (tgt := 1730) (by decide) dL_law_1540 ?_
    exact k_lv [2, 3, 4, 5, 6, 7] rfl K
set_option maxRecDepth 100000 in
theorem g_wayOf {p : Program} {e : Env} {s : State} {m : MethodId} {args : Array Value} {below : List Frame} {meth : Method} {c : Code} {Q : State → Prop} {A : Nat → Prop} {l : Launch} {D : va_G} {k : Nat → ClassId} {cells slots sc L ip aR aM ao ad : Nat} {xs : Nat → Int32} (E : kE p s m args c "MilkRoundLaw" cL_law 9 D (kTy k) (gW D A s.heap)) (hA : ∀ q, s.heap.size ≤ q → A q) (hZ : kZ A s s.heap) (hX : va_X sc L xs s s.heap) (hbl : sc < s.heap.size) (hbA : ¬ A sc) (hL : L ≤ 1536) (hip : ip + 3 ≤ L) (x1 : Int32) (hx1 : xs (ip + 1) = x1) {MR MR' : va_W} {lf lf' : Nat → Int64} {df : Nat → UInt64} {r : Int32} (hW : mH l yL_wayOf cL_wayOf 4 (some .int) [(0, 9, 12, 21)] 14 700 4 24 D (kTy k) [.ref aR, .int x1, .ref ao] (oL k ao lf :: MR) (.inl (some (.int r), oL k ao lf' :: MR'))) {MO MO' : va_W} {fs1 fs2 : List Value} (heMO : MO[0]? = some (aM, .inr (3, fs1))) (heMO' : MO'[0]? = some (aM, .inr (3, fs2))) {f lo : Nat} (hf : f ≤ 16) (hlo : lo ≤ 800) {v : Int32} (hMo : mW l yX3_wayOf cX3_wayOf 2 (some .char) f lo 0 0 D (kTy k) [.ref aM, .int x1] MO (some (.int v)) MO') (hTh : mR l yX3_thrown cX3_thrown 1 (some .int) 0 0 D (kTy k) [.ref aM] MO' (some (.int r))) (hres : r = 0 → lf' 0 = v.toInt64) (hcap : cells + 4 ≤ 603072 ∧ slots + 24 ≤ 7219306) (K : kJ p l e (kRmc 21 10870 603072 7219306) s m args below meth c (gW D A s.heap) 9 (cells + 4) (slots + 24) Q (MO' ++ ((oL k ao lf' :: MR') ++ [oD k ad df])) 1730 [(5, .int (nI ip)), (0, .ref sc), (1, .ref aR), (2, .ref aM), (3, .ref ao), (4, .ref ad)] []) : kJ p l e (kRmc 21 10870 603072 7219306) s m args below meth c (gW D A s.heap) 9 cells slots Q (MO ++ ((oL k ao lf :: MR) ++ [oD k ad df])) 1543 [(5, .int (nI ip)), (0, .ref sc), (1, .ref aR), (2, .ref aM), (3, .ref ao), (4, .ref ad)] [] := by
  refine k_aload_n E 2 rfl rfl dL_law_1543 ?_
  refine k_aload_n E 1 rfl rfl dL_law_1544 ?_
  refine k_iload E 0 rfl dL_law_1545 ?_
  refine k_iconst E (v := 1) (by decide) dL_law_1547 ?_
  refine k_iadd E dL_law_1548 ?_
  refine k_steq (st' := .int (nI (ip + 1)) :: [.ref sc, .ref aR]) (by rw [show nI ip + 1 = nI (ip + 1) from nI_add ip 1]; all_goals rfl) ?_
  refine k_sld E hX hbl hbA (by omega) hL hx1 dL_law_1549 ?_
  refine k_aload_n E 4 rfl rfl dL_law_1550 ?_
  refine k_callXS [.ref aR, .int x1, .ref ao] E hA hZ hW cf_L_wayOf q_626 MO [oD k ad df] rfl rfl rfl ⟨by decide, by decide⟩ (Nat.le_of_ble_eq_true rfl) hcap dL_law_1551 ?_
  refine k_istore (lv' := [(6, .int r), (5, .int (nI ip)), (0, .ref sc), (1, .ref aR), (2, .ref aM), (3, .ref ao), (4, .ref ad)]) E (by decide) rfl dL_law_1554 ?_
  refine k_aload_n E 4 rfl rfl dL_law_1556 ?_
  refine k_aload_n E 2 rfl rfl dL_law_1557 ?_
  refine k_iload E 1 rfl dL_law_1558 ?_
  refine k_iconst E (v := 1) (by decide) dL_law_1560 ?_
  refine k_iadd E dL_law_1561 ?_
  refine k_steq (st' := .int (nI (ip + 1)) :: [.ref sc, .ref aM]) (by rw [show nI ip + 1 = nI (ip + 1) from nI_add ip 1]; all_goals rfl) ?_
  refine k_sld E hX hbl hbA (by omega) hL hx1 dL_law_1562 ?_
  refine k_callWV0 [.int x1] E hA hMo cf_X3_wayOf q_915 [] ((oL k ao lf' :: MR') ++ [oD k ad df]) rfl heMO rfl rfl rfl ⟨show f + 1 ≤ 21 by omega, show 8 + (2 + 11) + lo ≤ 10870 by omega⟩ (Nat.le_of_ble_eq_true rfl) ⟨show cells + 4 + 0 ≤ 603072 by omega, show slots + 24 + 0 ≤ 7219306 by omega⟩ dL_law_1563 ?_
  refine k_istore (lv' := [(7, .int v), (6, .int r), (5, .int (nI ip)), (0, .ref sc), (1, .ref aR), (2, .ref aM), (3, .ref ao), (4, .ref ad)]) E (by decide) rfl dL_law_1566 ?_
  refine k_aload_n E 5 rfl rfl dL_law_1568 ?_
  refine k_callRV0 [] E hTh cf_X3_thrown q_739 [] ((oL k ao lf' :: MR') ++ [oD k ad df]) rfl heMO' rfl rfl rfl ⟨by decide, by decide⟩ (Nat.le_of_ble_eq_true rfl) ⟨show cells + 4 ≤ 603072 by omega, show slots + 24 ≤ 7219306 by omega⟩ dL_law_1569 ?_
  refine k_iload E 1 rfl dL_law_1572 ?_
  refine k_icmp_eq E (tgt := 1579) (by decide) dL_law_1574 (fun _ => ?_) (fun q => absurd rfl q)
  refine k_iload E 1 rfl dL_law_1579 ?_
  refine k_if_ne E (tgt := 1596) (by decide) dL_law_1581 (fun hr0 => ?_) (fun hr0 => ?_)
  · skip
    refine k_goto E (tgt := 1730) (by decide) dL_law_1596 ?_
    exact k_lv [2, 3, 4, 5, 6, 7] rfl K
  · skip
    refine k_aload_n E 6 rfl rfl dL_law_1584 ?_
    refine k_iconst E (v := 0) (by decide) dL_law_1585 ?_
    refine k_lald E (n := 1) (f := lf') MO'.length 3 (by simp) rfl (j := 0) rfl (by decide) (by decide) dL_law_1586 ?_
    refine k_iload E 0 rfl dL_law_1587 ?_
    refine k_i2l E (v := v.toInt64) rfl dL_law_1589 ?_
    refine k_lcmp E dL_law_1590 ?_
    refine k_if_eq E (tgt := 1596) (by decide) dL_law_1591 (fun _ => ?_) (fun q => absurd (by rw [hres hr0]; exact lg_self _) q)
    refine k_goto E (tgt := 1730) (by decide) dL_law_1596 ?_
    exact k_lv [2, 3, 4, 5, 6, 7] rfl K
set_option maxRecDepth 100000 in
theorem g_spoiltShare {p : Program} {e : Env} {s : State} {m : MethodId} {args : Array Value} {below : List Frame} {meth : Method} {c : Code} {Q : State → Prop} {A : Nat → Prop} {l : Launch} {D : va_G} {k : Nat → ClassId} {cells slots sc L ip aR aM ao ad : Nat} {xs : Nat → Int32} (E : kE p s m args c "MilkRoundLaw" cL_law 9 D (kTy k) (gW D A s.heap)) (hA : ∀ q, s.heap.size ≤ q → A q) (hZ : kZ A s s.heap) (hX : va_X sc L xs s s.heap) (hbl : sc < s.heap.size) (hbA : ¬ A sc) (hL : L ≤ 1536) (hip : ip + 3 ≤ L)  {MR MR' : va_W} {lf : Nat → Int64} {df df' : Nat → UInt64} {r : Int32} (hW : mH l yL_spoiltShare cL_spoiltShare 3 (some .int) [(0, 8, 11, 101)] 14 700 4 24 D (kTy k) [.ref aR, .ref ad] (MR ++ [oD k ad df]) (.inl (some (.int r), MR' ++ [oD k ad df']))) {MO MO' : va_W} {fs1 fs2 : List Value} (heMO : MO[0]? = some (aM, .inr (3, fs1))) (heMO' : MO'[0]? = some (aM, .inr (3, fs2))) {f lo : Nat} (hf : f ≤ 16) (hlo : lo ≤ 800) {v : UInt32} (hMo : mW l yX3_spoiltShare cX3_spoiltShare 4 (some .float) f lo 0 0 D (kTy k) [.ref aM] MO (some (.float v)) MO') (hTh : mR l yX3_thrown cX3_thrown 1 (some .int) 0 0 D (kTy k) [.ref aM] MO' (some (.int r))) (hnn : FP.Core.val64 (FP.f2d v) ≠ .nan) (hres : r = 0 → df' 0 = (FP.f2d v)) (hcap : cells + 4 ≤ 603072 ∧ slots + 24 ≤ 7219306) (K : kJ p l e (kRmc 21 10870 603072 7219306) s m args below meth c (gW D A s.heap) 9 (cells + 4) (slots + 24) Q (MO' ++ ((oL k ao lf :: MR') ++ [oD k ad df'])) 1730 [(5, .int (nI ip)), (0, .ref sc), (1, .ref aR), (2, .ref aM), (3, .ref ao), (4, .ref ad)] []) : kJ p l e (kRmc 21 10870 603072 7219306) s m args below meth c (gW D A s.heap) 9 cells slots Q (MO ++ ((oL k ao lf :: MR) ++ [oD k ad df])) 1599 [(5, .int (nI ip)), (0, .ref sc), (1, .ref aR), (2, .ref aM), (3, .ref ao), (4, .ref ad)] [] := by
  refine k_aload_n E 2 rfl rfl dL_law_1599 ?_
  refine k_aload E 5 rfl dL_law_1600 ?_
  refine k_callXS [.ref aR, .ref ad] E hA hZ hW cf_L_spoiltShare q_633 (MO ++ [oL k ao lf]) [] (by simp) rfl rfl ⟨by decide, by decide⟩ (Nat.le_of_ble_eq_true rfl) hcap dL_law_1602 ?_
  refine k_wseq (ws' := (MO ++ ((oL k ao lf :: MR') ++ [oD k ad df']))) (by simp) ?_
  refine k_istore (lv' := [(6, .int r), (5, .int (nI ip)), (0, .ref sc), (1, .ref aR), (2, .ref aM), (3, .ref ao), (4, .ref ad)]) E (by decide) rfl dL_law_1605 ?_
  refine k_aload_n E 4 rfl rfl dL_law_1607 ?_
  refine k_callWV0 [] E hA hMo cf_X3_spoiltShare q_919 [] ((oL k ao lf :: MR') ++ [oD k ad df']) rfl heMO rfl rfl rfl ⟨show f + 1 ≤ 21 by omega, show 8 + (4 + 11) + lo ≤ 10870 by omega⟩ (Nat.le_of_ble_eq_true rfl) ⟨show cells + 4 + 0 ≤ 603072 by omega, show slots + 24 + 0 ≤ 7219306 by omega⟩ dL_law_1608 ?_
  refine k_fstore (lv' := [(7, .float v), (6, .int r), (5, .int (nI ip)), (0, .ref sc), (1, .ref aR), (2, .ref aM), (3, .ref ao), (4, .ref ad)]) E (by decide) rfl dL_law_1611 ?_
  refine k_aload_n E 5 rfl rfl dL_law_1613 ?_
  refine k_callRV0 [] E hTh cf_X3_thrown q_739 [] ((oL k ao lf :: MR') ++ [oD k ad df']) rfl heMO' rfl rfl rfl ⟨by decide, by decide⟩ (Nat.le_of_ble_eq_true rfl) ⟨show cells + 4 ≤ 603072 by omega, show slots + 24 ≤ 7219306 by omega⟩ dL_law_1614 ?_
  refine k_iload E 1 rfl dL_law_1617 ?_
  refine k_icmp_eq E (tgt := 1624) (by decide) dL_law_1619 (fun _ => ?_) (fun q => absurd rfl q)
  refine k_iload E 1 rfl dL_law_1624 ?_
  refine k_if_ne E (tgt := 1662) (by decide) dL_law_1626 (fun hr0 => ?_) (fun hr0 => ?_)
  · skip
    refine k_goto E (tgt := 1730) (by decide) dL_law_1662 ?_
    exact k_lv [2, 3, 4, 5, 6, 7] rfl K
  · skip
    refine k_aload E 7 rfl dL_law_1629 ?_
    refine k_iconst E (v := 0) (by decide) dL_law_1631 ?_
    refine k_dald E (n := 1) (f := df') (MO'.length + (MR'.length + 1)) 4 (by simp) rfl (j := 0) rfl (by decide) (by decide) dL_law_1632 ?_
    refine k_fload E 0 rfl dL_law_1633 ?_
    refine k_f2d E (n64_of hnn) dL_law_1635 ?_
    refine k_dcmp E dL_law_1636 ?_
    refine k_if_eq E (tgt := 1662) (by decide) dL_law_1637 (fun _ => ?_) (fun q => absurd (by rw [hres hr0]; exact dcmp_s hnn) q)
    refine k_goto E (tgt := 1730) (by decide) dL_law_1662 ?_
    exact k_lv [2, 3, 4, 5, 6, 7] rfl K
set_option maxRecDepth 100000 in
theorem g_meanPay {p : Program} {e : Env} {s : State} {m : MethodId} {args : Array Value} {below : List Frame} {meth : Method} {c : Code} {Q : State → Prop} {A : Nat → Prop} {l : Launch} {D : va_G} {k : Nat → ClassId} {cells slots sc L ip aR aM ao ad : Nat} {xs : Nat → Int32} (E : kE p s m args c "MilkRoundLaw" cL_law 9 D (kTy k) (gW D A s.heap)) (hA : ∀ q, s.heap.size ≤ q → A q) (hZ : kZ A s s.heap) (hX : va_X sc L xs s s.heap) (hbl : sc < s.heap.size) (hbA : ¬ A sc) (hL : L ≤ 1536) (hip : ip + 3 ≤ L)  {MR MR' : va_W} {lf : Nat → Int64} {df df' : Nat → UInt64} {r : Int32} (hW : mH l yL_meanPay cL_meanPay 3 (some .int) [(0, 7, 10, 101)] 14 700 4 24 D (kTy k) [.ref aR, .ref ad] (MR ++ [oD k ad df]) (.inl (some (.int r), MR' ++ [oD k ad df']))) {MO MO' : va_W} {fs1 fs2 : List Value} (heMO : MO[0]? = some (aM, .inr (3, fs1))) (heMO' : MO'[0]? = some (aM, .inr (3, fs2))) {f lo : Nat} (hf : f ≤ 16) (hlo : lo ≤ 800) {v : UInt64} (hMo : mW l yX3_meanPay cX3_meanPay 5 (some .double) f lo 0 0 D (kTy k) [.ref aM] MO (some (.double v)) MO') (hTh : mR l yX3_thrown cX3_thrown 1 (some .int) 0 0 D (kTy k) [.ref aM] MO' (some (.int r))) (hnn : FP.Core.val64 v ≠ .nan) (hres : r = 0 → df' 0 = v) (hcap : cells + 4 ≤ 603072 ∧ slots + 24 ≤ 7219306) (K : kJ p l e (kRmc 21 10870 603072 7219306) s m args below meth c (gW D A s.heap) 9 (cells + 4) (slots + 24) Q (MO' ++ ((oL k ao lf :: MR') ++ [oD k ad df'])) 1730 [(5, .int (nI ip)), (0, .ref sc), (1, .ref aR), (2, .ref aM), (3, .ref ao), (4, .ref ad)] []) : kJ p l e (kRmc 21 10870 603072 7219306) s m args below meth c (gW D A s.heap) 9 cells slots Q (MO ++ ((oL k ao lf :: MR) ++ [oD k ad df])) 1665 [(5, .int (nI ip)), (0, .ref sc), (1, .ref aR), (2, .ref aM), (3, .ref ao), (4, .ref ad)] [] := by
  refine k_aload_n E 2 rfl rfl dL_law_1665 ?_
  refine k_aload E 5 rfl dL_law_1666 ?_
  refine k_callXS [.ref aR, .ref ad] E hA hZ hW cf_L_meanPay q_661 (MO ++ [oL k ao lf]) [] (by simp) rfl rfl ⟨by decide, by decide⟩ (Nat.le_of_ble_eq_true rfl) hcap dL_law_1668 ?_
  refine k_wseq (ws' := (MO ++ ((oL k ao lf :: MR') ++ [oD k ad df']))) (by simp) ?_
  refine k_istore (lv' := [(6, .int r), (5, .int (nI ip)), (0, .ref sc), (1, .ref aR), (2, .ref aM), (3, .ref ao), (4, .ref ad)]) E (by decide) rfl dL_law_1671 ?_
  refine k_aload_n E 4 rfl rfl dL_law_1673 ?_
  refine k_callWV0 [] E hA hMo cf_X3_meanPay q_923 [] ((oL k ao lf :: MR') ++ [oD k ad df']) rfl heMO rfl rfl rfl ⟨show f + 1 ≤ 21 by omega, show 8 + (5 + 11) + lo ≤ 10870 by omega⟩ (Nat.le_of_ble_eq_true rfl) ⟨show cells + 4 + 0 ≤ 603072 by omega, show slots + 24 + 0 ≤ 7219306 by omega⟩ dL_law_1674 ?_
  refine k_dstore (lv' := [(7, .double v), (6, .int r), (5, .int (nI ip)), (0, .ref sc), (1, .ref aR), (2, .ref aM), (3, .ref ao), (4, .ref ad)]) E (by decide) rfl dL_law_1677 ?_
  refine k_aload_n E 5 rfl rfl dL_law_1679 ?_
  refine k_callRV0 [] E hTh cf_X3_thrown q_739 [] ((oL k ao lf :: MR') ++ [oD k ad df']) rfl heMO' rfl rfl rfl ⟨by decide, by decide⟩ (Nat.le_of_ble_eq_true rfl) ⟨show cells + 4 ≤ 603072 by omega, show slots + 24 ≤ 7219306 by omega⟩ dL_law_1680 ?_
  refine k_iload E 1 rfl dL_law_1683 ?_
  refine k_icmp_eq E (tgt := 1690) (by decide) dL_law_1685 (fun _ => ?_) (fun q => absurd rfl q)
  refine k_iload E 1 rfl dL_law_1690 ?_
  refine k_if_ne E (tgt := 1727) (by decide) dL_law_1692 (fun hr0 => ?_) (fun hr0 => ?_)
  · skip
    refine k_goto E (tgt := 1730) (by decide) dL_law_1727 ?_
    exact k_lv [2, 3, 4, 5, 6, 7] rfl K
  · skip
    refine k_aload E 7 rfl dL_law_1695 ?_
    refine k_iconst E (v := 0) (by decide) dL_law_1697 ?_
    refine k_dald E (n := 1) (f := df') (MO'.length + (MR'.length + 1)) 4 (by simp) rfl (j := 0) rfl (by decide) (by decide) dL_law_1698 ?_
    refine k_dload E 0 rfl dL_law_1699 ?_
    refine k_dcmp E dL_law_1701 ?_
    refine k_if_eq E (tgt := 1727) (by decide) dL_law_1702 (fun _ => ?_) (fun q => absurd (by rw [hres hr0]; exact dcmp_s hnn) q)
    refine k_goto E (tgt := 1730) (by decide) dL_law_1727 ?_
    exact k_lv [2, 3, 4, 5, 6, 7] rfl K
