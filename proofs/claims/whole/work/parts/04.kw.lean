section KW
variable {p : Program} {l : Launch} {e : Env} {R : Room} {s : State} {m : MethodId} {args : Array Value} {below : List Frame} {meth : Method} {c : Code} {cells slots : Nat} {Q : State → Prop}
variable {cc : ByteArray} {own : String} {nL pc : Nat} {D : va_G} {tys : List (ClassId × FieldType)} {A : Nat → Prop} {ws : va_W} {lv : List (Nat × Value)} {st : List Value}
theorem kPl {D : va_G} {cl : List vw_C} {a b : va_W} {H : Heap} (h : va_P D cl (a ++ b) H) : va_P D cl a H := fun k q hk => h k q (by rw [List.getElem?_append_left (List.getElem?_eq_some_iff.mp hk).1]; exact hk)
theorem kPr {D : va_G} {cl : List vw_C} {a b : va_W} {H : Heap} (h : va_P D cl (a ++ b) H) : va_P D cl b H := fun k q hk => h (a.length + k) q (by rw [List.getElem?_append_right (Nat.le_add_right _ _), Nat.add_sub_cancel_left]; exact hk)
theorem kDl {A : Nat → Prop} {a b : va_W} (h : va_D A (a ++ b)) : va_D A a := ⟨fun i j x y hi hj hxy => h.1 i j x y (by rw [List.getElem?_append_left (List.getElem?_eq_some_iff.mp hi).1]; exact hi) (by rw [List.getElem?_append_left (List.getElem?_eq_some_iff.mp hj).1]; exact hj) hxy, fun k q hk => h.2 k q (by rw [List.getElem?_append_left (List.getElem?_eq_some_iff.mp hk).1]; exact hk)⟩
theorem kDr {A : Nat → Prop} {a b : va_W} (h : va_D A (a ++ b)) : va_D A b := by
  refine ⟨fun i j x y hi hj hxy => ?_, fun k q hk => h.2 (a.length + k) q (by rw [List.getElem?_append_right (Nat.le_add_right _ _), Nat.add_sub_cancel_left]; exact hk)⟩
  have := h.1 (a.length + i) (a.length + j) x y (by rw [List.getElem?_append_right (Nat.le_add_right _ _), Nat.add_sub_cancel_left]; exact hi) (by rw [List.getElem?_append_right (Nat.le_add_right _ _), Nat.add_sub_cancel_left]; exact hj) hxy
  omega
theorem kDx {A : Nat → Prop} {a b : va_W} (h : va_D A (a ++ b)) {i j : Nat} {x y : Nat × va_E} (hi : a[i]? = some x) (hj : b[j]? = some y) : x.1 ≠ y.1 := by
  intro hxy
  have hl := (List.getElem?_eq_some_iff.mp hi).1
  have := h.1 i (a.length + j) x y (by rw [List.getElem?_append_left hl]; exact hi) (by rw [List.getElem?_append_right (Nat.le_add_right _ _), Nat.add_sub_cancel_left]; exact hj) hxy
  omega
theorem kPs {D : va_G} {cl : List vw_C} {a b c : va_W} {H : Heap} (h : va_P D cl (a ++ (b ++ c)) H) : va_P D cl b H := kPl (kPr h)
theorem kDs {A : Nat → Prop} {a b c : va_W} (h : va_D A (a ++ (b ++ c))) : va_D A b := kDl (kDr h)
/-- behind a call on the middle of a world -/
theorem k_mid {A0 : Nat → Prop} {D : va_G} {cl : List vw_C} {pre wc post w1 : va_W} {H H1 : Heap} (hP : va_P D cl (pre ++ (wc ++ post)) H) (hD : va_D A0 (pre ++ (wc ++ post))) (hk : ∀ q : Nat, q < H.size → ¬ va_A wc H.size q → H1[q]? = H[q]?) (hF : ∀ q, va_A wc H.size q → A0 q) (hP1 : va_P D cl w1 H1) (hD1 : va_D (va_A wc H.size) w1) : va_P D cl (pre ++ (w1 ++ post)) H1 ∧ va_D A0 (pre ++ (w1 ++ post)) := by
  have hPp := kPl hP
  have hPq := kPr (kPr hP)
  have na : ∀ (k : Nat) (q : Nat × va_E), pre[k]? = some q → ¬ va_A wc H.size q.1 := by
    intro k q hq h
    rcases h with ⟨j, e, h⟩ | h
    · exact kDx hD hq (j := j) (y := (q.1, e)) (by rw [List.getElem?_append_left (List.getElem?_eq_some_iff.mp h).1]; exact h) rfl
    · have := (hPp k q hq).lt
      omega
  have nb : ∀ (k : Nat) (q : Nat × va_E), post[k]? = some q → ¬ va_A wc H.size q.1 := by
    intro k q hq h
    rcases h with ⟨j, e, h⟩ | h
    · exact kDx (kDr hD) h hq rfl
    · have := (hPq k q hq).lt
      omega
  refine ⟨va_P.app (hPp.kept fun k q hq => hk q.1 (hPp k q hq).lt (na k q hq)) (va_P.app hP1 (hPq.kept fun k q hq => hk q.1 (hPq k q hq).lt (nb k q hq))), ?_⟩
  have hw1 : ∀ (k : Nat) (q : Nat × va_E), w1[k]? = some q → va_A wc H.size q.1 := fun k q hq => hD1.2 k q hq
  refine va_D.app (kDl hD) (va_D.app (hD1.weaken fun k q hq h => hF q.1 h) (kDr (kDr hD)) fun i j x y hx hy hxy => nb j y hy (by rw [← hxy]; exact hw1 i x hx)) fun i j x y hx hy hxy => ?_
  by_cases hl : j < w1.length
  · rw [List.getElem?_append_left hl] at hy
    exact na i x hx (by rw [hxy]; exact hw1 j y hy)
  · rw [List.getElem?_append_right (by omega)] at hy
    refine kDx hD hx (j := wc.length + (j - w1.length)) (y := y) ?_ hxy
    rw [List.getElem?_append_right (by omega), Nat.add_sub_cancel_left]
    exact hy
theorem k_freeM {A0 : Nat → Prop} {pre wc post : va_W} {H0 H : Heap} {locs : List Loc} (hD : va_D A0 (pre ++ (wc ++ post))) (hS : va_S A0 H0 H locs) (hA : ∀ q, H0.size ≤ q → A0 q) : ∀ q, va_A wc H.size q → A0 q := by
  intro q h
  rcases h with ⟨k, e, h⟩ | h
  · exact (kDs hD).2 k (q, e) h
  · exact hA q (Nat.le_trans hS.1 h)
theorem kZ.go {A A1 : Nat → Prop} {s U : State} {H : Heap} {locs : List Loc} (hZ : kZ A s s.heap) (hS : va_S A s.heap H locs) (hU : U.heap = H) (hW : s.WarmedH U.vm) (hn : ∀ q, A1 q → A q) : kZ A1 U U.heap := by
  rw [hU]
  exact ⟨vx_Zq.narrow (vx_Zq.moved hW.alike (hZ.1.kept hS.2.1)) hn, vx_Zq.narrow (vx_Zq.moved hW.alike (hZ.2.kept hS.2.1)) hn⟩

theorem k_put (E : kE p s m args c own cc nL D tys (gW D A s.heap)) {ref C : String} {T : u_T} {N ci index a : Nat} {ws' : va_W} (hin : ∀ w ∈ u_ws C T N, w ∈ lw_all) (ty0 : Nat → FieldType) (hty : ∀ k, k < N → parseFieldDescriptor (T k).2.2.1 = some (ty0 k)) (hnm : ∀ a, a < N → ∀ b, b < N → a ≠ b → (T a).2.1 ≠ (T b).2.1) (q0 : Nat) {fs : List Value} (he : ws[q0]? = some (a, .inr (ci, fs))) (hc : kCl[ci]? = some (C, T, N)) (k : Nat) (hk : k < N) (hlink : Cond.fieldLink own index ref (T k).2.1 (T k).2.2.1 ∈ lw_all) (hsame : (T k).1 = ref) (hfin : (T k).2.2.2 = false) {v : Value} (hn : narrow (ty0 k) v = v) (hfit : fits (ty0 k) v = true) (hl0 : k < fs.length) (hw : ws.set q0 (a, .inr (ci, fs.set k v)) = ws') (d : decode cc pc = .ok (.putfield index, 3)) (K : kJ p l e R s m args below meth c (gW D A s.heap) nL cells slots Q ws' (pc + 3) lv st) : kJ p l e R s m args below meth c (gW D A s.heap) nL cells slots Q ws pc lv (v :: .ref a :: st) := fun H locs ls hG hl => va_put E.1 E.2.1 E.2.2.2.2.1 hin ty0 hty hnm E.2.2.2.1 E.2.2.2.2.2.1.1 hG.1 hG.2.1 hG.2.2 q0 he hc k hk (E.2.2.2.2.1 _ hlink) (fun x h => by rw [← hsame]; exact h) hfin (hty k hk) hn hfit hl0 d (fun H1 locs1 hP hD hS => K H1 locs1 ls ⟨hw ▸ hP, hw ▸ hD, hS⟩ hl)
theorem k_putF (E : kE p s m args c own cc nL D tys (gW D A s.heap)) {ref C : String} {T : u_T} {N ci index a : Nat} {ws' : va_W} (hin : ∀ w ∈ u_ws C T N, w ∈ lw_all) (ty0 : Nat → FieldType) (hty : ∀ k, k < N → parseFieldDescriptor (T k).2.2.1 = some (ty0 k)) (hnm : ∀ a, a < N → ∀ b, b < N → a ≠ b → (T a).2.1 ≠ (T b).2.1) (q0 : Nat) {fs : List Value} (he : ws[q0]? = some (a, .inr (ci, fs))) (hc : kCl[ci]? = some (C, T, N)) (k : Nat) (hk : k < N) (hlink : Cond.fieldLink own index ref (T k).2.1 (T k).2.2.1 ∈ lw_all) (hsame : (T k).1 = ref) (hfin : (T k).2.2.2 = true) (hin2 : meth.name = "<init>") (hdecl : (T k).1 = own) {v : Value} (hn : narrow (ty0 k) v = v) (hfit : fits (ty0 k) v = true) (hl0 : k < fs.length) (hw : ws.set q0 (a, .inr (ci, fs.set k v)) = ws') (d : decode cc pc = .ok (.putfield index, 3)) (K : kJ p l e R s m args below meth c (gW D A s.heap) nL cells slots Q ws' (pc + 3) lv st) : kJ p l e R s m args below meth c (gW D A s.heap) nL cells slots Q ws pc lv (v :: .ref a :: st) := fun H locs ls hG hl => va_putF E.1 E.2.1 E.2.2.2.2.1 hin ty0 hty hnm E.2.2.2.1 E.2.2.2.2.2.1.1 hG.1 hG.2.1 hG.2.2 q0 he hc k hk (E.2.2.2.2.1 _ hlink) (fun x h => by rw [← hsame]; exact h) hfin hin2 hdecl (hty k hk) hn hfit hl0 d (fun H1 locs1 hP hD hS => K H1 locs1 ls ⟨hw ▸ hP, hw ▸ hD, hS⟩ hl)
theorem k_iast (E : kE p s m args c own cc nL D tys (gW D A s.heap)) {a : Nat} {ws' : va_W} (q0 t0 : Nat) {cA : ClassId} {n : Nat} {f : Nat → Int32} (ha : ws[q0]? = some (a, .inl (cA, n, .inl f))) (ht : tys[t0]? = some (cA, .int)) {i : Int32} {j : Nat} {x : Int32} {y : Int32} (hi : i = nI j) (hj : j < n) (hn : n < 2 ^ 31) (hv : x = y) (hw : ws.set q0 (a, .inl (cA, n, .inl (upd f j y))) = ws') (d : decode cc pc = .ok (.iastore, 1)) (K : kJ p l e R s m args below meth c (gW D A s.heap) nL cells slots Q ws' (pc + 1) lv st) : kJ p l e R s m args below meth c (gW D A s.heap) nL cells slots Q ws pc lv (.int x :: .int i :: .ref a :: st) := fun H locs ls hG hl => va_iast E.1 E.2.1 E.2.2.2.2.2.1.1 hG.1 hG.2.1 hG.2.2 q0 t0 ha ht (by rw [hi]; exact vp_in_nI hj hn) d (fun H1 locs1 hP hD hS => K H1 locs1 ls ⟨by rw [hi, nI_clamp (Nat.lt_trans hj hn), hv] at  hP; exact hw ▸ hP, by rw [hi, nI_clamp (Nat.lt_trans hj hn), hv] at  hD; exact hw ▸ hD, hS⟩ hl)
theorem k_cast (E : kE p s m args c own cc nL D tys (gW D A s.heap)) {a : Nat} {ws' : va_W} (q0 t0 : Nat) {cA : ClassId} {n : Nat} {f : Nat → Int32} (ha : ws[q0]? = some (a, .inl (cA, n, .inl f))) (ht : tys[t0]? = some (cA, .char)) {i : Int32} {j : Nat} {x : Int32} {y : Int32} (hi : i = nI j) (hj : j < n) (hn : n < 2 ^ 31) (hv : vp_nar .char x = y) (hw : ws.set q0 (a, .inl (cA, n, .inl (upd f j y))) = ws') (d : decode cc pc = .ok (.castore, 1)) (K : kJ p l e R s m args below meth c (gW D A s.heap) nL cells slots Q ws' (pc + 1) lv st) : kJ p l e R s m args below meth c (gW D A s.heap) nL cells slots Q ws pc lv (.int x :: .int i :: .ref a :: st) := fun H locs ls hG hl => va_cast E.1 E.2.1 E.2.2.2.2.2.1.1 hG.1 hG.2.1 hG.2.2 q0 t0 ha ht (by rw [hi]; exact vp_in_nI hj hn) d (fun H1 locs1 hP hD hS => K H1 locs1 ls ⟨by rw [hi, nI_clamp (Nat.lt_trans hj hn), hv] at  hP; exact hw ▸ hP, by rw [hi, nI_clamp (Nat.lt_trans hj hn), hv] at  hD; exact hw ▸ hD, hS⟩ hl)
theorem k_zast (E : kE p s m args c own cc nL D tys (gW D A s.heap)) {a : Nat} {ws' : va_W} (q0 t0 : Nat) {cA : ClassId} {n : Nat} {f : Nat → Int32} (ha : ws[q0]? = some (a, .inl (cA, n, .inl f))) (ht : tys[t0]? = some (cA, .boolean)) {i : Int32} {j : Nat} {x : Int32} {y : Int32} (hi : i = nI j) (hj : j < n) (hn : n < 2 ^ 31) (hv : vp_nar .boolean x = y) (hw : ws.set q0 (a, .inl (cA, n, .inl (upd f j y))) = ws') (d : decode cc pc = .ok (.bastore, 1)) (K : kJ p l e R s m args below meth c (gW D A s.heap) nL cells slots Q ws' (pc + 1) lv st) : kJ p l e R s m args below meth c (gW D A s.heap) nL cells slots Q ws pc lv (.int x :: .int i :: .ref a :: st) := fun H locs ls hG hl => va_zast E.1 E.2.1 E.2.2.2.2.2.1.1 hG.1 hG.2.1 hG.2.2 q0 t0 ha ht (by rw [hi]; exact vp_in_nI hj hn) d (fun H1 locs1 hP hD hS => K H1 locs1 ls ⟨by rw [hi, nI_clamp (Nat.lt_trans hj hn), hv] at  hP; exact hw ▸ hP, by rw [hi, nI_clamp (Nat.lt_trans hj hn), hv] at  hD; exact hw ▸ hD, hS⟩ hl)
theorem k_last (E : kE p s m args c own cc nL D tys (gW D A s.heap)) {a : Nat} {ws' : va_W} (q0 t0 : Nat) {cA : ClassId} {n : Nat} {f : Nat → Int64} (ha : ws[q0]? = some (a, .inl (cA, n, .inr (.inl f)))) (ht : tys[t0]? = some (cA, .long)) {i : Int32} {j : Nat} {x : Int64} (hi : i = nI j) (hj : j < n) (hn : n < 2 ^ 31) (hw : ws.set q0 (a, .inl (cA, n, .inr (.inl (vp_updL f j x)))) = ws') (d : decode cc pc = .ok (.lastore, 1)) (K : kJ p l e R s m args below meth c (gW D A s.heap) nL cells slots Q ws' (pc + 1) lv st) : kJ p l e R s m args below meth c (gW D A s.heap) nL cells slots Q ws pc lv (.long x :: .int i :: .ref a :: st) := fun H locs ls hG hl => va_last E.1 E.2.1 E.2.2.2.2.2.1.1 hG.1 hG.2.1 hG.2.2 q0 t0 ha ht (by rw [hi]; exact vp_in_nI hj hn) d (fun H1 locs1 hP hD hS => K H1 locs1 ls ⟨by rw [hi, nI_clamp (Nat.lt_trans hj hn)] at  hP; exact hw ▸ hP, by rw [hi, nI_clamp (Nat.lt_trans hj hn)] at  hD; exact hw ▸ hD, hS⟩ hl)
theorem k_dast (E : kE p s m args c own cc nL D tys (gW D A s.heap)) {a : Nat} {ws' : va_W} (q0 t0 : Nat) {cA : ClassId} {n : Nat} {f : Nat → UInt64} (ha : ws[q0]? = some (a, .inl (cA, n, .inr (.inr (.inr (.inl f)))))) (ht : tys[t0]? = some (cA, .double)) {i : Int32} {j : Nat} {x : UInt64} (hi : i = nI j) (hj : j < n) (hn : n < 2 ^ 31) (hw : ws.set q0 (a, .inl (cA, n, .inr (.inr (.inr (.inl (vf_upd f j x)))))) = ws') (d : decode cc pc = .ok (.dastore, 1)) (K : kJ p l e R s m args below meth c (gW D A s.heap) nL cells slots Q ws' (pc + 1) lv st) : kJ p l e R s m args below meth c (gW D A s.heap) nL cells slots Q ws pc lv (.double x :: .int i :: .ref a :: st) := fun H locs ls hG hl => va_dast E.1 E.2.1 E.2.2.2.2.2.1.1 hG.1 hG.2.1 hG.2.2 q0 t0 ha ht (by rw [hi]; exact vp_in_nI hj hn) d (fun H1 locs1 hP hD hS => K H1 locs1 ls ⟨by rw [hi, nI_clamp (Nat.lt_trans hj hn)] at  hP; exact hw ▸ hP, by rw [hi, nI_clamp (Nat.lt_trans hj hn)] at  hD; exact hw ▸ hD, hS⟩ hl)
theorem mW.of {y : MethodName} {bytes : ByteArray} {ret : Option FieldType} {f lo mc ms : Nat} {av : List Value} {W0 W1 : va_W} {v : Option Value} {lv' : List (Nat × Value)} (hy : plainName y.cls = true) (hlen : (lg_sl av).length ≤ nL) (hlv : lv_args 0 av = lv') (body : ∀ (p : Program) (e : Env) (s : State) (m : MethodId) (args : Array Value) (below : List Frame) (meth : Method) (c : Code), kE p s m args c y.cls bytes nL D tys (gW D (va_A W0 s.heap.size) s.heap) → meth.sig.returnType = ret → meth.locks = false → meth.name = y.name → (∀ q, s.heap.size ≤ q → va_A W0 s.heap.size q) → kJ p l e (kRmc f lo mc ms) s m args below meth c (gW D (va_A W0 s.heap.size) s.heap) nL 0 0 (MQ below (kQw v D W0 W1 s.heap.size) args s mc ms (va_A W0 s.heap.size)) W0 0 lv' []) : mW l y bytes nL ret f lo mc ms D tys av W0 v W1 := by
  intro sz
  refine Met.ofW (cc := bytes) (maxL := nL) (ret := ret) hy rfl ?_
  intro p e s m args below meth c s₁ B hml hv
  obtain ⟨rfl, hsz, hP, hK, hD⟩ := hv
  subst hsz
  have hts := atoms_spec (ws := kws y bytes nL ret) B.pre
  have hown : s.vm.findClass y.cls = some m.cls := findClass_of_methodNamed B.named
  have hl := lv_entry av (n := nL) hlen
  have hin : meth.name = y.name := (name_of_methodNamed B.named B.method).1
  rw [lg_entry_eq]
  exact body p e s m _ below meth c ⟨B.exec, B.bytes, hml, hown, fun w h => hts w (List.mem_cons_of_mem _ h), hK, fun _ _ _ hG => hG.1⟩ B.returns B.notSynchronized hin (fun q h => Or.inr h) s.heap [] _ ⟨hP, hD.self, va_S.rf⟩ (hlv ▸ hl)
theorem mX.of {y : MethodName} {bytes : ByteArray} {ret : Option FieldType} {f lo mc ms : Nat} {av : List Value} {W0 : va_W} {out : (Option Value × va_W) ⊕ String} {lv' : List (Nat × Value)} (hy : plainName y.cls = true) (hlen : (lg_sl av).length ≤ nL) (hlv : lv_args 0 av = lv') (body : ∀ (p : Program) (e : Env) (s : State) (m : MethodId) (args : Array Value) (below : List Frame) (meth : Method) (c : Code), kE p s m args c y.cls bytes nL D tys (gW D (va_A W0 s.heap.size) s.heap) → meth.sig.returnType = ret → meth.locks = false → (∀ x ∈ c.exceptionTable.toList, False) → kZ (va_A W0 s.heap.size) s s.heap → (∀ q, s.heap.size ≤ q → va_A W0 s.heap.size q) → kJ p l e (kRmc f lo mc ms) s m args below meth c (gW D (va_A W0 s.heap.size) s.heap) nL 0 0 (vx_MQ below (kXq out D W0 s.heap.size) (kXc out D W0 s.heap.size) args s mc ms (va_A W0 s.heap.size)) W0 0 lv' []) : mX l y bytes nL ret f lo mc ms D tys av W0 out := by
  intro sz
  refine vx_ofW (cc := bytes) (maxL := nL) (ret := ret) hy rfl ?_
  intro p e s m args below meth c s₁ B hml hex hv
  obtain ⟨rfl, hsz, hP, hK, hD, hZ⟩ := hv
  subst hsz
  have hts := atoms_spec (ws := kws y bytes nL ret) B.pre
  have hown : s.vm.findClass y.cls = some m.cls := findClass_of_methodNamed B.named
  have hl := lv_entry av (n := nL) hlen
  rw [lg_entry_eq]
  exact body p e s m _ below meth c ⟨B.exec, B.bytes, hml, hown, fun w h => hts w (List.mem_cons_of_mem _ h), hK, fun _ _ _ hG => hG.1⟩ B.returns B.notSynchronized hex hZ (fun q h => Or.inr h) s.heap [] _ ⟨hP, hD.self, va_S.rf⟩ (hlv ▸ hl)
theorem mH.of {y : MethodName} {bytes : ByteArray} {ret : Option FieldType} {hh : List (Nat × Nat × Nat × Nat)} {f lo mc ms : Nat} {av : List Value} {W0 : va_W} {out : (Option Value × va_W) ⊕ String} {lv' : List (Nat × Value)} (hy : plainName y.cls = true) (hlen : (lg_sl av).length ≤ nL) (hlv : lv_args 0 av = lv') (body : ∀ (p : Program) (e : Env) (s : State) (m : MethodId) (args : Array Value) (below : List Frame) (meth : Method) (c : Code), kE p s m args c y.cls bytes nL D tys (gW D (va_A W0 s.heap.size) s.heap) → meth.sig.returnType = ret → meth.locks = false → c.exceptionTable.toList = tableOf hh → kZ (va_A W0 s.heap.size) s s.heap → (∀ q, s.heap.size ≤ q → va_A W0 s.heap.size q) → kJ p l e (kRmc f lo mc ms) s m args below meth c (gW D (va_A W0 s.heap.size) s.heap) nL 0 0 (vx_MQ below (kXq out D W0 s.heap.size) (kXc out D W0 s.heap.size) args s mc ms (va_A W0 s.heap.size)) W0 0 lv' []) : mH l y bytes nL ret hh f lo mc ms D tys av W0 out := by
  intro sz
  refine vx_ofWH (cc := bytes) (maxL := nL) (ret := ret) (hh := hh) hy rfl ?_
  intro p e s m args below meth c s₁ B hml hv
  obtain ⟨rfl, hsz, hP, hK, hD, hZ⟩ := hv
  subst hsz
  have hts := atoms_spec (ws := kwsH y bytes nL ret hh) B.pre
  have hown : s.vm.findClass y.cls = some m.cls := findClass_of_methodNamed B.named
  have htab : c.exceptionTable.toList = tableOf hh := vx_table (x := y) B (hts _ List.mem_cons_self)
  have hl := lv_entry av (n := nL) hlen
  rw [lg_entry_eq]
  exact body p e s m _ below meth c ⟨B.exec, B.bytes, hml, hown, fun w h => hts w (List.mem_cons_of_mem _ h), hK, fun _ _ _ hG => hG.1⟩ B.returns B.notSynchronized htab hZ (fun q h => Or.inr h) s.heap [] _ ⟨hP, hD.self, va_S.rf⟩ (hlv ▸ hl)

theorem kw_iret {W0 W1 : va_W} {v : Option Value} {mc ms : Nat} (E : kE p s m args c own cc nL D tys (gW D (va_A W0 s.heap.size) s.heap)) {x : Int32} (hr : meth.sig.returnType = some .int) (hlk : meth.locks = false) (hv : some (Value.int x) = v) (hw : ws = W1) (hc : cells ≤ mc) (hs : slots ≤ ms) (d : decode cc pc = .ok (.ireturn, 1)) : kJ p l e R s m args below meth c (gW D (va_A W0 s.heap.size) s.heap) nL cells slots (MQ below (kQw v D W0 W1 s.heap.size) args s mc ms (va_A W0 s.heap.size)) ws pc lv [.int x] := by
  intro H locs ls hG hl
  obtain ⟨hP, hD, hS⟩ := hG
  subst hw
  refine W.widen hc hs ?_
  exact W.iret E.1 E.2.1 hr (fun t ht hW => ⟨by rw [hv], by rw [ht]; exact hP, hD, hS.F ht⟩) hS.2.2 d hlk
theorem kx_iret {W0 W1 : va_W} {v : Option Value} {out : (Option Value × va_W) ⊕ String} {mc ms : Nat} (E : kE p s m args c own cc nL D tys (gW D (va_A W0 s.heap.size) s.heap)) {x : Int32} (hr : meth.sig.returnType = some .int) (hlk : meth.locks = false) (ho : out = .inl (v, W1)) (hv : some (Value.int x) = v) (hw : ws = W1) (hc : cells ≤ mc) (hs : slots ≤ ms) (d : decode cc pc = .ok (.ireturn, 1)) : kJ p l e R s m args below meth c (gW D (va_A W0 s.heap.size) s.heap) nL cells slots (vx_MQ below (kXq out D W0 s.heap.size) (kXc out D W0 s.heap.size) args s mc ms (va_A W0 s.heap.size)) ws pc lv [.int x] := by
  intro H locs ls hG hl
  obtain ⟨hP, hD, hS⟩ := hG
  subst hw
  refine W.widen hc hs (vx_ret ?_)
  exact W.iret E.1 E.2.1 hr (fun t ht hW => ⟨_, _, ho, by rw [hv], by rw [ht]; exact hP, hD, hS.F ht⟩) hS.2.2 d hlk
theorem kw_zret {W0 W1 : va_W} {v : Option Value} {mc ms : Nat} (E : kE p s m args c own cc nL D tys (gW D (va_A W0 s.heap.size) s.heap)) {x : Int32} {ty : FieldType} (hn : narrow ty (.int x) = .int x) (hr : meth.sig.returnType = some ty) (hlk : meth.locks = false) (hv : some (Value.int x) = v) (hw : ws = W1) (hc : cells ≤ mc) (hs : slots ≤ ms) (d : decode cc pc = .ok (.ireturn, 1)) : kJ p l e R s m args below meth c (gW D (va_A W0 s.heap.size) s.heap) nL cells slots (MQ below (kQw v D W0 W1 s.heap.size) args s mc ms (va_A W0 s.heap.size)) ws pc lv [.int x] := by
  intro H locs ls hG hl
  obtain ⟨hP, hD, hS⟩ := hG
  subst hw
  refine W.widen hc hs ?_
  exact W.zret E.1 E.2.1 hr hn (fun t ht hW => ⟨by rw [hv], by rw [ht]; exact hP, hD, hS.F ht⟩) hS.2.2 d hlk
theorem kx_zret {W0 W1 : va_W} {v : Option Value} {out : (Option Value × va_W) ⊕ String} {mc ms : Nat} (E : kE p s m args c own cc nL D tys (gW D (va_A W0 s.heap.size) s.heap)) {x : Int32} {ty : FieldType} (hn : narrow ty (.int x) = .int x) (hr : meth.sig.returnType = some ty) (hlk : meth.locks = false) (ho : out = .inl (v, W1)) (hv : some (Value.int x) = v) (hw : ws = W1) (hc : cells ≤ mc) (hs : slots ≤ ms) (d : decode cc pc = .ok (.ireturn, 1)) : kJ p l e R s m args below meth c (gW D (va_A W0 s.heap.size) s.heap) nL cells slots (vx_MQ below (kXq out D W0 s.heap.size) (kXc out D W0 s.heap.size) args s mc ms (va_A W0 s.heap.size)) ws pc lv [.int x] := by
  intro H locs ls hG hl
  obtain ⟨hP, hD, hS⟩ := hG
  subst hw
  refine W.widen hc hs (vx_ret ?_)
  exact W.zret E.1 E.2.1 hr hn (fun t ht hW => ⟨_, _, ho, by rw [hv], by rw [ht]; exact hP, hD, hS.F ht⟩) hS.2.2 d hlk
theorem kw_lret {W0 W1 : va_W} {v : Option Value} {mc ms : Nat} (E : kE p s m args c own cc nL D tys (gW D (va_A W0 s.heap.size) s.heap)) {x : Int64} (hr : meth.sig.returnType = some .long) (hlk : meth.locks = false) (hv : some (Value.long x) = v) (hw : ws = W1) (hc : cells ≤ mc) (hs : slots ≤ ms) (d : decode cc pc = .ok (.lreturn, 1)) : kJ p l e R s m args below meth c (gW D (va_A W0 s.heap.size) s.heap) nL cells slots (MQ below (kQw v D W0 W1 s.heap.size) args s mc ms (va_A W0 s.heap.size)) ws pc lv [.long x] := by
  intro H locs ls hG hl
  obtain ⟨hP, hD, hS⟩ := hG
  subst hw
  refine W.widen hc hs ?_
  exact W.lret E.1 E.2.1 hr (fun t ht hW => ⟨by rw [hv], by rw [ht]; exact hP, hD, hS.F ht⟩) hS.2.2 d hlk
theorem kx_lret {W0 W1 : va_W} {v : Option Value} {out : (Option Value × va_W) ⊕ String} {mc ms : Nat} (E : kE p s m args c own cc nL D tys (gW D (va_A W0 s.heap.size) s.heap)) {x : Int64} (hr : meth.sig.returnType = some .long) (hlk : meth.locks = false) (ho : out = .inl (v, W1)) (hv : some (Value.long x) = v) (hw : ws = W1) (hc : cells ≤ mc) (hs : slots ≤ ms) (d : decode cc pc = .ok (.lreturn, 1)) : kJ p l e R s m args below meth c (gW D (va_A W0 s.heap.size) s.heap) nL cells slots (vx_MQ below (kXq out D W0 s.heap.size) (kXc out D W0 s.heap.size) args s mc ms (va_A W0 s.heap.size)) ws pc lv [.long x] := by
  intro H locs ls hG hl
  obtain ⟨hP, hD, hS⟩ := hG
  subst hw
  refine W.widen hc hs (vx_ret ?_)
  exact W.lret E.1 E.2.1 hr (fun t ht hW => ⟨_, _, ho, by rw [hv], by rw [ht]; exact hP, hD, hS.F ht⟩) hS.2.2 d hlk
theorem kw_fret {W0 W1 : va_W} {v : Option Value} {mc ms : Nat} (E : kE p s m args c own cc nL D tys (gW D (va_A W0 s.heap.size) s.heap)) {x : UInt32} (hr : meth.sig.returnType = some .float) (hlk : meth.locks = false) (hv : some (Value.float x) = v) (hw : ws = W1) (hc : cells ≤ mc) (hs : slots ≤ ms) (d : decode cc pc = .ok (.freturn, 1)) : kJ p l e R s m args below meth c (gW D (va_A W0 s.heap.size) s.heap) nL cells slots (MQ below (kQw v D W0 W1 s.heap.size) args s mc ms (va_A W0 s.heap.size)) ws pc lv [.float x] := by
  intro H locs ls hG hl
  obtain ⟨hP, hD, hS⟩ := hG
  subst hw
  refine W.widen hc hs ?_
  exact W.fret E.1 E.2.1 hr (fun t ht hW => ⟨by rw [hv], by rw [ht]; exact hP, hD, hS.F ht⟩) hS.2.2 d hlk
theorem kx_fret {W0 W1 : va_W} {v : Option Value} {out : (Option Value × va_W) ⊕ String} {mc ms : Nat} (E : kE p s m args c own cc nL D tys (gW D (va_A W0 s.heap.size) s.heap)) {x : UInt32} (hr : meth.sig.returnType = some .float) (hlk : meth.locks = false) (ho : out = .inl (v, W1)) (hv : some (Value.float x) = v) (hw : ws = W1) (hc : cells ≤ mc) (hs : slots ≤ ms) (d : decode cc pc = .ok (.freturn, 1)) : kJ p l e R s m args below meth c (gW D (va_A W0 s.heap.size) s.heap) nL cells slots (vx_MQ below (kXq out D W0 s.heap.size) (kXc out D W0 s.heap.size) args s mc ms (va_A W0 s.heap.size)) ws pc lv [.float x] := by
  intro H locs ls hG hl
  obtain ⟨hP, hD, hS⟩ := hG
  subst hw
  refine W.widen hc hs (vx_ret ?_)
  exact W.fret E.1 E.2.1 hr (fun t ht hW => ⟨_, _, ho, by rw [hv], by rw [ht]; exact hP, hD, hS.F ht⟩) hS.2.2 d hlk
theorem kw_dret {W0 W1 : va_W} {v : Option Value} {mc ms : Nat} (E : kE p s m args c own cc nL D tys (gW D (va_A W0 s.heap.size) s.heap)) {x : UInt64} (hr : meth.sig.returnType = some .double) (hlk : meth.locks = false) (hv : some (Value.double x) = v) (hw : ws = W1) (hc : cells ≤ mc) (hs : slots ≤ ms) (d : decode cc pc = .ok (.dreturn, 1)) : kJ p l e R s m args below meth c (gW D (va_A W0 s.heap.size) s.heap) nL cells slots (MQ below (kQw v D W0 W1 s.heap.size) args s mc ms (va_A W0 s.heap.size)) ws pc lv [.double x] := by
  intro H locs ls hG hl
  obtain ⟨hP, hD, hS⟩ := hG
  subst hw
  refine W.widen hc hs ?_
  exact W.dret E.1 E.2.1 hr (fun t ht hW => ⟨by rw [hv], by rw [ht]; exact hP, hD, hS.F ht⟩) hS.2.2 d hlk
theorem kx_dret {W0 W1 : va_W} {v : Option Value} {out : (Option Value × va_W) ⊕ String} {mc ms : Nat} (E : kE p s m args c own cc nL D tys (gW D (va_A W0 s.heap.size) s.heap)) {x : UInt64} (hr : meth.sig.returnType = some .double) (hlk : meth.locks = false) (ho : out = .inl (v, W1)) (hv : some (Value.double x) = v) (hw : ws = W1) (hc : cells ≤ mc) (hs : slots ≤ ms) (d : decode cc pc = .ok (.dreturn, 1)) : kJ p l e R s m args below meth c (gW D (va_A W0 s.heap.size) s.heap) nL cells slots (vx_MQ below (kXq out D W0 s.heap.size) (kXc out D W0 s.heap.size) args s mc ms (va_A W0 s.heap.size)) ws pc lv [.double x] := by
  intro H locs ls hG hl
  obtain ⟨hP, hD, hS⟩ := hG
  subst hw
  refine W.widen hc hs (vx_ret ?_)
  exact W.dret E.1 E.2.1 hr (fun t ht hW => ⟨_, _, ho, by rw [hv], by rw [ht]; exact hP, hD, hS.F ht⟩) hS.2.2 d hlk
theorem kw_vret {W0 W1 : va_W} {v : Option Value} {mc ms : Nat} (E : kE p s m args c own cc nL D tys (gW D (va_A W0 s.heap.size) s.heap)) (hr : meth.sig.returnType = none) (hlk : meth.locks = false) (hv : none = v) (hw : ws = W1) (hc : cells ≤ mc) (hs : slots ≤ ms) (d : decode cc pc = .ok (.return_, 1)) : kJ p l e R s m args below meth c (gW D (va_A W0 s.heap.size) s.heap) nL cells slots (MQ below (kQw v D W0 W1 s.heap.size) args s mc ms (va_A W0 s.heap.size)) ws pc lv [] := by
  intro H locs ls hG hl
  obtain ⟨hP, hD, hS⟩ := hG
  subst hw
  refine W.widen hc hs ?_
  exact W.vret E.1 E.2.1 hr (fun t ht hW => ⟨by rw [hv], by rw [ht]; exact hP, hD, hS.F ht⟩) hS.2.2 d hlk
theorem kx_vret {W0 W1 : va_W} {v : Option Value} {out : (Option Value × va_W) ⊕ String} {mc ms : Nat} (E : kE p s m args c own cc nL D tys (gW D (va_A W0 s.heap.size) s.heap)) (hr : meth.sig.returnType = none) (hlk : meth.locks = false) (ho : out = .inl (v, W1)) (hv : none = v) (hw : ws = W1) (hc : cells ≤ mc) (hs : slots ≤ ms) (d : decode cc pc = .ok (.return_, 1)) : kJ p l e R s m args below meth c (gW D (va_A W0 s.heap.size) s.heap) nL cells slots (vx_MQ below (kXq out D W0 s.heap.size) (kXc out D W0 s.heap.size) args s mc ms (va_A W0 s.heap.size)) ws pc lv [] := by
  intro H locs ls hG hl
  obtain ⟨hP, hD, hS⟩ := hG
  subst hw
  refine W.widen hc hs (vx_ret ?_)
  exact W.vret E.1 E.2.1 hr (fun t ht hW => ⟨_, _, ho, by rw [hv], by rw [ht]; exact hP, hD, hS.F ht⟩) hS.2.2 d hlk
theorem kRun_W {v : Option Value} {a : Array Value} {st0 : List Value} {pre post Wc W1 : va_W} {mc ms : Nat} (hws : ws = pre ++ (Wc ++ post)) {ws' : va_W} (hws' : pre ++ (W1 ++ post) = ws') (hA : ∀ q, s.heap.size ≤ q → A q) (hr : ∀ (H : Heap) (locs : List Loc) (ls : Array Slot), gW D A s.heap ws H locs → lv_has ls nL lv → va_Run p l e R s m args below meth c H locs cells slots mc ms (F0 m pc ls st0) st (kQw v D Wc W1 H.size a) (va_A Wc H.size)) (K : kJ p l e R s m args below meth c (gW D A s.heap) nL (cells + mc) (slots + ms) Q ws' (pc + 3) lv (v.toList ++ st)) : kJ p l e R s m args below meth c (gW D A s.heap) nL cells slots Q ws pc lv st0 := by
  intro H locs ls hG hl T hT X
  obtain ⟨v', st₀, t, T', L, h0, X', hL, e1, e2, ⟨ho, hP1, hD1, hF1⟩, stp⟩ := hr H locs ls hG hl T hT X
  cases ho
  obtain ⟨hP, hD, hS⟩ := hG
  subst hws
  have hFc := k_freeM hD hS hA
  obtain ⟨k1, k2, k3⟩ := vx_keep h0 e1 hS (fun q _ h => hFc q h) hFc hL hF1
  rw [← e1] at hP1
  obtain ⟨hP2, hD2⟩ := k_mid hP hD k2 hFc hP1 hD1
  obtain ⟨t2, a1, b1⟩ := K T'.heap _ ls ⟨hws' ▸ hP2, hws' ▸ hD2, k3⟩ hl T' rfl X'
  exact ⟨t2, stp t2 a1, b1⟩
theorem kFBw {av : List Value} {W0 : va_W} {sz : Nat} : FrameBlind (va_Pc av (fun U => U.heap.size = sz ∧ va_P D kCl W0 U.heap ∧ kK D tys U ∧ va_D (fun _ => True) W0)) := fun a U g mk q => ⟨q.1, q.2.1, q.2.2.1, kK.calling q.2.2.2.1, q.2.2.2.2⟩
theorem kZ.calling {A : Nat → Prop} {U : State} {g : JFrame} {mk : MethodId} {a : Array Value} (h : kZ A U U.heap) : kZ A (U.calling g mk a) (U.calling g mk a).heap := ⟨vx_Zq.moved (u := U) (U := U.calling g mk a) (Vm.Alike.refl U.vm) h.1, vx_Zq.moved (u := U) (U := U.calling g mk a) (Vm.Alike.refl U.vm) h.2⟩
theorem kFBx {av : List Value} {W0 : va_W} {sz : Nat} : FrameBlind (kPx av D tys W0 sz) := fun a U g mk q => ⟨q.1, q.2.1, q.2.2.1, kK.calling q.2.2.2.1, q.2.2.2.2.1, kZ.calling q.2.2.2.2.2⟩
theorem k_callWV {y : MethodName} {bytes : ByteArray} {maxL f lo n idx b ci mc ms : Nat} {ret : Option FieldType} {Wc W1 : va_W} {v : Option Value} {fs : List Value} {T : u_T} {N : Nat} {st0 : List Value} (As : List Value) (E : kE p s m args c own cc nL D tys (gW D A s.heap)) (hA : ∀ q, s.heap.size ≤ q → A q) (hM : mW l y bytes maxL ret f lo mc ms D tys (.ref b :: As) Wc v W1) (F : kCF y bytes maxL ret n) (hlk : Cond.methodLink own idx y ∈ lw_all) (pre post : va_W) {ws' : va_W} (hws : ws = pre ++ (Wc ++ post)) (hws' : pre ++ (W1 ++ post) = ws') (q0 : Nat) (he : ws[q0]? = some (b, .inr (ci, fs))) (hci : kCl[ci]? = some (y.cls, T, N)) (hst : st0 = As.reverse ++ .ref b :: st) (hn : As.length = n) (hR : f + 1 ≤ R.frames ∧ 8 + (maxL + 11) + lo ≤ R.locals) (hcat : (st.map fun v => v.category).sum ≤ 8) (hc : cells + mc ≤ R.cells ∧ slots + ms ≤ R.slots) (d : decode cc pc = .ok (.invokevirtual idx, 3)) (K : kJ p l e R s m args below meth c (gW D A s.heap) nL (cells + mc) (slots + ms) Q ws' (pc + 3) lv (v.toList ++ st)) : kJ p l e R s m args below meth c (gW D A s.heap) nL cells slots Q ws pc lv st0 := by
  subst hst
  refine kRun_W (a := (Value.ref b :: As).toArray) hws hws' hA (fun H locs ls hG hl => ?_) K
  exact va_runV (nL := nL) (g := F0 m pc ls _) ⟨E.1, E.2.1, E.2.2.1, E.2.2.2.1, E.2.2.2.2.1⟩ (hM H.size) (cwV n E.2.2.2.2.1 (kV_in F hlk) rfl rfl rfl ⟨rfl, F.2.2.2.2.1.1, F.2.2.2.2.1.2, F.2.2.2.2.2⟩ hR) ⟨kFBw, va_recv E.2.2.2.2.2.1.1 hG.1 hci he, fun U hU hW => ⟨rfl, by rw [hU], by rw [hU]; exact kPs (hws ▸ hG.1), kK.moved hW E.2.2.2.2.2.1, (kDs (hws ▸ hG.2.1)).weaken (fun _ _ _ _ => trivial)⟩⟩ rfl hn hl.1 rfl (lv_room hcat) d hc
theorem k_callWVN {y : MethodName} {bytes : ByteArray} {maxL f lo n idx b ci mc ms : Nat} {ret : Option FieldType} {Wc W1 : va_W} {v : Option Value} {fs : List Value} {T : u_T} {N : Nat} {st0 : List Value} (As : List Value) (E : kE p s m args c own cc nL D tys (gW D A s.heap)) (hA : ∀ q, s.heap.size ≤ q → A q) (hM : mW l y bytes maxL ret f lo mc ms D tys (.ref b :: As) Wc v W1) (F : kCF y bytes maxL ret n) (hown : own = RX2) (hlk : (idx, y) ∈ kNM) (pre post : va_W) {ws' : va_W} (hws : ws = pre ++ (Wc ++ post)) (hws' : pre ++ (W1 ++ post) = ws') (q0 : Nat) (he : ws[q0]? = some (b, .inr (ci, fs))) (hci : kCl[ci]? = some (y.cls, T, N)) (hst : st0 = As.reverse ++ .ref b :: st) (hn : As.length = n) (hR : f + 1 ≤ R.frames ∧ 8 + (maxL + 11) + lo ≤ R.locals) (hcat : (st.map fun v => v.category).sum ≤ 8) (hc : cells + mc ≤ R.cells ∧ slots + ms ≤ R.slots) (d : decode cc pc = .ok (.invokevirtual idx, 3)) (K : kJ p l e R s m args below meth c (gW D A s.heap) nL (cells + mc) (slots + ms) Q ws' (pc + 3) lv (v.toList ++ st)) : kJ p l e R s m args below meth c (gW D A s.heap) nL cells slots Q ws pc lv st0 := by
  subst hst
  subst hown
  refine kRun_W (a := (Value.ref b :: As).toArray) hws hws' hA (fun H locs ls hG hl => ?_) K
  exact va_runVN (nL := nL) (g := F0 m pc ls _) ⟨E.1, E.2.1, E.2.2.1, E.2.2.2.1, E.2.2.2.2.1⟩ (hM H.size) ⟨va_cnB n E.2.2.2.2.1 (kws_in F.1) rfl rfl rfl (E.2.2.2.2.2.1.2.2.1 _ hlk) (E.2.2.2.2.1 _ F.2.2.2.1) ⟨F.2.2.2.2.1.1, F.2.2.2.2.1.2, F.2.2.2.2.2⟩ hR, E.2.2.2.2.1 _ F.2.1, E.2.2.2.2.1 _ F.2.2.1⟩ ⟨kFBw, va_recv E.2.2.2.2.2.1.1 hG.1 hci he, fun U hU hW => ⟨rfl, by rw [hU], by rw [hU]; exact kPs (hws ▸ hG.1), kK.moved hW E.2.2.2.2.2.1, (kDs (hws ▸ hG.2.1)).weaken (fun _ _ _ _ => trivial)⟩⟩ rfl hn hl.1 rfl (lv_room hcat) d hc
theorem k_callI {y : MethodName} {bytes : ByteArray} {maxL f lo n idx b mc ms : Nat} {Wc W1 : va_W} {st0 : List Value} (As : List Value) (E : kE p s m args c own cc nL D tys (gW D A s.heap)) (hA : ∀ q, s.heap.size ≤ q → A q) (hM : mW l y bytes maxL none f lo mc ms D tys (.ref b :: As) Wc none W1) (F : kCI y bytes maxL n) (hlk : Cond.methodLink own idx y ∈ lw_all) (pre post : va_W) {ws' : va_W} (hws : ws = pre ++ (Wc ++ post)) (hws' : pre ++ (W1 ++ post) = ws') (hst : st0 = As.reverse ++ .ref b :: st) (hn : As.length = n) (hR : f + 1 ≤ R.frames ∧ 8 + (maxL + 11) + lo ≤ R.locals) (hcat : (st.map fun v => v.category).sum ≤ 8) (hc : cells + mc ≤ R.cells ∧ slots + ms ≤ R.slots) (d : decode cc pc = .ok (.invokespecial idx, 3)) (K : kJ p l e R s m args below meth c (gW D A s.heap) nL (cells + mc) (slots + ms) Q ws' (pc + 3) lv st) : kJ p l e R s m args below meth c (gW D A s.heap) nL cells slots Q ws pc lv st0 := by
  subst hst
  refine kRun_W (v := none) (a := (Value.ref b :: As).toArray) hws hws' hA (fun H locs ls hG hl => ?_) K
  exact va_runI (nL := nL) (g := F0 m pc ls _) ⟨E.1, E.2.1, E.2.2.1, E.2.2.2.1, E.2.2.2.2.1⟩ (hM H.size) (cwI n E.2.2.2.2.1 (kws_in F.1) rfl rfl rfl (E.2.2.2.2.1 _ F.2.2.1) (E.2.2.2.2.1 _ hlk) (E.2.2.2.2.1 _ F.2.1) F.2.2.2.1 ⟨F.2.2.2.2.1.1, F.2.2.2.2.1.2, F.2.2.2.2.2⟩ hR) ⟨kFBw, fun U hU hW => ⟨rfl, by rw [hU], by rw [hU]; exact kPs (hws ▸ hG.1), kK.moved hW E.2.2.2.2.2.1, (kDs (hws ▸ hG.2.1)).weaken (fun _ _ _ _ => trivial)⟩⟩ rfl hn hl.1 rfl (lv_room hcat) d hc
theorem k_callIN {y : MethodName} {bytes : ByteArray} {maxL f lo n idx b mc ms : Nat} {Wc W1 : va_W} {st0 : List Value} (As : List Value) (E : kE p s m args c own cc nL D tys (gW D A s.heap)) (hA : ∀ q, s.heap.size ≤ q → A q) (hM : mW l y bytes maxL none f lo mc ms D tys (.ref b :: As) Wc none W1) (F : kCI y bytes maxL n) (hown : own = RX2) (hlk : (idx, y) ∈ kNM) (pre post : va_W) {ws' : va_W} (hws : ws = pre ++ (Wc ++ post)) (hws' : pre ++ (W1 ++ post) = ws') (hst : st0 = As.reverse ++ .ref b :: st) (hn : As.length = n) (hR : f + 1 ≤ R.frames ∧ 8 + (maxL + 11) + lo ≤ R.locals) (hcat : (st.map fun v => v.category).sum ≤ 8) (hc : cells + mc ≤ R.cells ∧ slots + ms ≤ R.slots) (d : decode cc pc = .ok (.invokespecial idx, 3)) (K : kJ p l e R s m args below meth c (gW D A s.heap) nL (cells + mc) (slots + ms) Q ws' (pc + 3) lv st) : kJ p l e R s m args below meth c (gW D A s.heap) nL cells slots Q ws pc lv st0 := by
  subst hst
  subst hown
  refine kRun_W (v := none) (a := (Value.ref b :: As).toArray) hws hws' hA (fun H locs ls hG hl => ?_) K
  exact va_runIN (nL := nL) (g := F0 m pc ls _) ⟨E.1, E.2.1, E.2.2.1, E.2.2.2.1, E.2.2.2.2.1⟩ (hM H.size) ⟨va_cnB n E.2.2.2.2.1 (kws_in F.1) rfl rfl rfl (E.2.2.2.2.2.1.2.2.1 _ hlk) (E.2.2.2.2.1 _ F.2.2.1) ⟨F.2.2.2.2.1.1, F.2.2.2.2.1.2, F.2.2.2.2.2⟩ hR, F.2.2.2.1, E.2.2.2.2.1 _ F.2.1⟩ ⟨kFBw, fun U hU hW => ⟨rfl, by rw [hU], by rw [hU]; exact kPs (hws ▸ hG.1), kK.moved hW E.2.2.2.2.2.1, (kDs (hws ▸ hG.2.1)).weaken (fun _ _ _ _ => trivial)⟩⟩ rfl hn hl.1 rfl (lv_room hcat) d hc
theorem kRun_X {a : Array Value} {st0 : List Value} {pre post Wc : va_W} {out : (Option Value × va_W) ⊕ String} {mc ms : Nat} (hws : ws = pre ++ (Wc ++ post)) (hA : ∀ q, s.heap.size ≤ q → A q) (hr : ∀ (H : Heap) (locs : List Loc) (ls : Array Slot), gW D A s.heap ws H locs → lv_has ls nL lv → vx_Run p l e R s m args below meth c H locs cells slots mc ms (F0 m pc ls st0) st (kXq out D Wc H.size a) (kXc out D Wc H.size) (va_A Wc H.size)) (KK : ∀ (v : Option Value) (W1 : va_W), out = .inl (v, W1) → kJ p l e R s m args below meth c (gW D A s.heap) nL (cells + mc) (slots + ms) Q (pre ++ (W1 ++ post)) (pc + 3) lv (v.toList ++ st)) (KT : ∀ X : String, out = .inr X → kX p l e R s m args below meth c (gW D A s.heap) nL (cells + mc) (slots + ms) Q ws pc lv st X) : kJ p l e R s m args below meth c (gW D A s.heap) nL cells slots Q ws pc lv st0 := by
  intro H locs ls hG hl T hT X
  rcases hr H locs ls hG hl T hT X with ⟨v', st₀, t, T', L, h0, X', hL, e1, e2, ⟨v, W1, ho, hv, hP1, hD1, hF1⟩, stp⟩ | ⟨q, st₀, t, T', L, E, ce, h0, X', hL, e1, e2, ⟨ho, hP1, hD1, hF1⟩, hce, hcv, hcl, stp⟩
  · cases hv
    obtain ⟨hP, hD, hS⟩ := hG
    subst hws
    have hFc := k_freeM hD hS hA
    obtain ⟨k1, k2, k3⟩ := vx_keep h0 e1 hS (fun q _ h => hFc q h) hFc hL hF1
    rw [← e1] at hP1
    obtain ⟨hP2, hD2⟩ := k_mid hP hD k2 hFc hP1 hD1
    obtain ⟨t2, a1, b1⟩ := KK _ _ ho T'.heap _ ls ⟨hP2, hD2, k3⟩ hl T' rfl X'
    exact ⟨t2, stp t2 a1, b1⟩
  · obtain ⟨hP, hD, hS⟩ := hG
    have hP' := hP
    have hD' := hD
    rw [hws] at hP' hD'
    have hFc := k_freeM hD' hS hA
    obtain ⟨k1, k2, k3⟩ := vx_keep h0 e1 hS (fun q _ h => hFc q h) hFc hL hF1
    rw [← e1] at hP1
    obtain ⟨hP2, hD2⟩ := k_mid hP' hD' k2 hFc hP1 hD1
    obtain ⟨t2, a1, b1⟩ := KT E ho T'.heap (locs ++ L) ls q ce ⟨hws ▸ hP2, hws ▸ hD2, k3⟩ hl (by rw [e1]; exact hce) hcv hcl T' rfl X'
    exact ⟨t2, stp.trans a1, b1⟩
theorem k_callXV {y : MethodName} {bytes : ByteArray} {maxL f lo n idx b ci mc ms : Nat} {ret : Option FieldType} {Wc : va_W} {out : (Option Value × va_W) ⊕ String} {fs : List Value} {T : u_T} {N : Nat} {st0 : List Value} (As : List Value) (E : kE p s m args c own cc nL D tys (gW D A s.heap)) (hA : ∀ q, s.heap.size ≤ q → A q) (hZ : kZ A s s.heap) (hM : mX l y bytes maxL ret f lo mc ms D tys (.ref b :: As) Wc out) (F : kCF y bytes maxL ret n) (hlk : Cond.methodLink own idx y ∈ lw_all) (pre post : va_W) (hws : ws = pre ++ (Wc ++ post)) (q0 : Nat) (he : ws[q0]? = some (b, .inr (ci, fs))) (hci : kCl[ci]? = some (y.cls, T, N)) (hst : st0 = As.reverse ++ .ref b :: st) (hn : As.length = n) (hR : f + 1 ≤ R.frames ∧ 8 + (maxL + 11) + lo ≤ R.locals) (hcat : (st.map fun v => v.category).sum ≤ 8) (hc : cells + mc ≤ R.cells ∧ slots + ms ≤ R.slots) (d : decode cc pc = .ok (.invokevirtual idx, 3)) (KK : ∀ (v : Option Value) (W1 : va_W), out = .inl (v, W1) → kJ p l e R s m args below meth c (gW D A s.heap) nL (cells + mc) (slots + ms) Q (pre ++ (W1 ++ post)) (pc + 3) lv (v.toList ++ st)) (KT : ∀ X : String, out = .inr X → kX p l e R s m args below meth c (gW D A s.heap) nL (cells + mc) (slots + ms) Q ws pc lv st X) : kJ p l e R s m args below meth c (gW D A s.heap) nL cells slots Q ws pc lv st0 := by
  subst hst
  refine kRun_X (a := (Value.ref b :: As).toArray) hws hA (fun H locs ls hG hl => ?_) KK KT
  exact vx_runV (nL := nL) (g := F0 m pc ls _) ⟨E.1, E.2.1, E.2.2.1, E.2.2.2.1, E.2.2.2.2.1⟩ (hM H.size) (cwV n E.2.2.2.2.1 (kV_in F hlk) rfl rfl rfl ⟨rfl, F.2.2.2.2.1.1, F.2.2.2.2.1.2, F.2.2.2.2.2⟩ hR) ⟨kFBx, va_recv E.2.2.2.2.2.1.1 hG.1 hci he, fun U hU hW => ⟨rfl, by rw [hU], by rw [hU]; exact kPs (hws ▸ hG.1), kK.moved hW E.2.2.2.2.2.1, (kDs (hws ▸ hG.2.1)).weaken (fun _ _ _ _ => trivial), kZ.go hZ hG.2.2 hU hW (k_freeM (hws ▸ hG.2.1) hG.2.2 hA)⟩⟩ rfl hn hl.1 rfl (lv_room hcat) d hc
theorem k_xout {W0 : va_W} {out : (Option Value × va_W) ⊕ String} {mc ms : Nat} {X : String} (hlk : meth.locks = false) (hex : ∀ x ∈ c.exceptionTable.toList, False) (ho : out = .inr X) (hw : ws = W0) (hc : cells ≤ mc) (hs : slots ≤ ms) : kX p l e R s m args below meth c (gW D (va_A W0 s.heap.size) s.heap) nL cells slots (vx_MQ below (kXq out D W0 s.heap.size) (kXc out D W0 s.heap.size) args s mc ms (va_A W0 s.heap.size)) ws pc lv st X := by
  intro H locs ls q ce hG hl hce hcv hcl
  obtain ⟨hP, hD, hS⟩ := hG
  subst hw
  exact vx_out (fun x hx => (hex x hx).elim) hlk hce hcv hcl (fun t ht _ => ⟨ho, by rw [ht]; exact hP, hD, hS.F ht⟩) hS.2.2 hc hs
theorem k_xcatch {own0 : String} {X name : String} (E : kE p s m args c own0 cc nL D tys (gW D A s.heap)) {hh : List (Nat × Nat × Nat × Nat)} (htab : c.exceptionTable.toList = tableOf hh) (pre : List ExceptionTableEntry) (x : ExceptionTableEntry) (suf : List ExceptionTableEntry) (hsplit : tableOf hh = pre ++ x :: suf) (hpass : ∀ z ∈ pre, covers z pc = false ∨ (z.catchType ≠ 0 ∧ ∃ nm : String, Cond.classLink own0 z.catchType nm ∈ lw_all ∧ (X, nm) ∈ kNc)) (hx : covers x pc = true) (h0 : x.catchType ≠ 0) (hlink : Cond.classLink own0 x.catchType name ∈ lw_all) (hcast : (X, name) ∈ kCa) (K : ∀ q : Nat, kJ p l e R s m args below meth c (gW D A s.heap) nL cells slots Q ws x.handlerPc lv [.ref q]) : kX p l e R s m args below meth c (gW D A s.heap) nL cells slots Q ws pc lv st X := by
  intro H locs ls q ce hG hl hce hcv hcl
  refine vx_catch E.2.2.2.1 pre x suf (htab.trans hsplit) (fun z hz => ?_) hx h0 (E.2.2.2.2.1 _ hlink) (va_Nw.use rfl (E.2.2.2.2.2.1.2.2.2.1 _ hcast)) hce hcv hcl (K q H locs ls hG hl)
  rcases hpass z hz with h | ⟨h1, nm, h2, h3⟩
  · exact Or.inl h
  · exact Or.inr ⟨h1, nm, E.2.2.2.2.1 _ h2, E.2.2.2.2.2.1.2.2.2.2.2.2.1 _ h3⟩
def kBadW : List Cond := (kCa.map fun q => Cond.castable q.1 q.2) ++ kDe.map Cond.declares
theorem kBad {D : va_G} {tys : List (ClassId × FieldType)} {U : State} {a : Array Value} (h : kK D tys U) : ∀ w ∈ kBadW, w.before a U = true := by
  intro w hw
  unfold kBadW at hw
  rcases List.mem_append.mp hw with h1 | h1
  · obtain ⟨q, hq, rfl⟩ := List.mem_map.mp h1
    exact va_Nw.use rfl (h.2.2.2.1 q hq)
  · obtain ⟨q, hq, rfl⟩ := List.mem_map.mp h1
    exact va_Nw.use rfl (h.2.2.2.2.1 q hq)
/-- throw new X(text) out of a method without a table -/
theorem k_throw {W0 : va_W} {out : (Option Value × va_W) ⊕ String} {mc ms : Nat} {cls text : String} {names : List String} {ik is ic : Nat} (E : kE p s m args c own cc nL D tys (gW D (va_A W0 s.heap.size) s.heap)) (hlt : l.stackTraces = false) (hlk : meth.locks = false) (hex : ∀ x ∈ c.exceptionTable.toList, False) (hZ : kZ (va_A W0 s.heap.size) s s.heap) (hown : own = RX2) (ho : out = .inr cls) (hw : ws = W0) (hcls : Bundle.fit cls = true) (hnames : ∀ n ∈ names, Bundle.fit n = true) (hk : Cond.classLink own ik cls ∈ lw_all) (hini : Cond.initialized cls ∈ lw_all) (hstr : (is, text) ∈ kSt) (hgoodw : ∀ w ∈ (vx_atS own ic cls names).filter goodWord, w ∈ lw_all) (hbad : ∀ w ∈ (vx_atS own ic cls names).filter (fun w => !goodWord w), w ∈ kBadW) (hot : ∀ w ∈ Cond.classLink own ik cls :: Cond.initialized cls :: vx_atS own ic cls names, vx_ot w = true) (d0 : decode cc pc = .ok (.new ik, 3)) (d3 : decode cc (pc + 3) = .ok (.dup, 1)) (d4 : decode cc (pc + 4) = .ok (.ldc is, 2)) (d6 : decode cc (pc + 6) = .ok (.invokespecial ic, 3)) (d9 : decode cc (pc + 9) = .ok (.athrow, 1)) (hRf : names.length + 3 < R.frames) (hRl : (st.map fun v => v.category).sum + (13 * (names.length + 1) + 43) ≤ R.locals) (hRc : cells + 1 ≤ R.cells) (hRs : slots + 6 ≤ R.slots) (hc : cells + 1 ≤ mc) (hs : slots + 6 ≤ ms) : kJ p l e R s m args below meth c (gW D (va_A W0 s.heap.size) s.heap) nL cells slots (vx_MQ below (kXq out D W0 s.heap.size) (kXc out D W0 s.heap.size) args s mc ms (va_A W0 s.heap.size)) ws pc lv st := by
  intro H locs ls hG hl
  obtain ⟨hP, hD, hS⟩ := hG
  subst hw
  subst hown
  obtain ⟨sa, hsa⟩ := E.2.2.2.2.2.1.2.2.2.2.2.1 _ hstr
  refine vx_throwS (names := names) E.1 E.2.1 hlt E.2.2.2.1 hcls hnames (E.2.2.2.2.1 _ hk) (E.2.2.2.2.1 _ hini) hsa (vx_hat (fun w hw => E.2.2.2.2.1 _ (hgoodw w hw)) hbad (kBad E.2.2.2.2.2.1)) hot hZ.1 hZ.2 hS (hl.1.trans E.2.2.1.symm) d0 d3 d4 d6 d9 (fun x hx => (hex x hx).elim) hRf hRl hRc hRs hlk (fun t _ hle hkp => ⟨ho, hP.kept (fun k q hq => hkp q.1 (hP k q hq).lt), hD, ?_⟩) hS.2.2 hc hs
  exact ⟨Nat.le_trans hS.1 hle, fun q h1 h2 => by rw [hkp q (Nat.lt_of_lt_of_le h1 hS.1)]; exact hS.2.1 q h1 h2⟩

end KW
