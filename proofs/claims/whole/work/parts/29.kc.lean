section KC
variable {p : Program} {l : Launch} {e : Env} {R : Room} {s : State} {m : MethodId} {args : Array Value} {below : List Frame} {meth : Method} {c : Code} {cells slots : Nat} {Q Q' : State → Prop}
variable {cc : ByteArray} {own : String} {nL pc : Nat} {D : va_G} {k : Nat → ClassId} {A : Nat → Prop} {G : va_W → Heap → List Loc → Prop} {ws : va_W} {lv : List (Nat × Value)} {st : List Value}
theorem kJ.mono (h : ∀ t, Q t → Q' t) (K : kJ p l e R s m args below meth c G nL cells slots Q ws pc lv st) : kJ p l e R s m args below meth c G nL cells slots Q' ws pc lv st := fun H locs ls hG hl T hT X => by
  obtain ⟨t, a, b⟩ := K H locs ls hG hl T hT X
  exact ⟨t, a, h t b⟩
theorem k_objInit {tys : List (ClassId × FieldType)} (E : kE p s m args c own cc nL D tys G) {idx a : Nat} (hlk : Cond.methodLink own idx objectInit ∈ lw_all) (d : decode cc pc = .ok (.invokespecial idx, 3)) (hf : 4 < R.frames) (hlo : (st.map fun v => v.category).sum + 60 ≤ R.locals) (K : kJ p l e R s m args below meth c G nL cells slots Q ws (pc + 3) lv st) : kJ p l e R s m args below meth c G nL cells slots Q ws pc lv (.ref a :: st) := fun H locs ls hG hl =>
  W.objInit E.1 E.2.1 E.2.2.2.1 (E.2.2.2.2.1 _ hlk) (E.2.2.2.2.1 _ q_23) (E.2.2.2.2.1 _ q_24) rfl (hl.1.trans E.2.2.1.symm) rfl d (by omega) (by have e : (Value.ref a).category = 1 := rfl; simp only [F0, List.map_cons, List.sum_cons, JFrame.monitorRoom, e]; omega) (K H locs ls hG hl)
theorem k_arr (E : kE p s m args c own cc nL D (kTy k) (gW D A s.heap)) {t0 : Nat} {cA : ClassId} {ty : FieldType} (hne : ∀ C : ClassId, va_RA s C ty → s.vm.findClass ("[" ++ ty.toString) = some C) (ht : (kTy k)[t0]? = some (cA, ty)) : s.vm.findClass ("[" ++ ty.toString) = some cA := hne _ (E.2.2.2.2.2.1.1.2 t0 _ ht).2
theorem k_newa (E : kE p s m args c own cc nL D (kTy k) (gW D A s.heap)) (hA : ∀ q, s.heap.size ≤ q → A q) {atype : ArrayType} {ty : FieldType} (hty : newarray.typeOf atype = ty) (harr : Cond.arrayClass ty ∈ lw_all) (t0 : Nat) {cA : ClassId} (ht : (kTy k)[t0]? = some (cA, ty)) (hne : ∀ C : ClassId, va_RA s C ty → s.vm.findClass ("[" ++ ty.toString) = some C) {x : Int32} {N' : Nat} {a0 : vp_A} (ha : ∀ C : ClassId, vp_cell C a0 = arrV C N' (fun _ => defaultValue ty)) (hn : ¬ x < 0) (hN : x.toNatClampNeg = N') (hbytes : N' * componentBytes ty ≤ 536870912) (hcells : cells + 1 ≤ R.cells) (hslots : slots + N' ≤ R.slots) (d : decode cc pc = .ok (.newarray atype, 2))
    (K : ∀ q : Nat, kJ p l e R s m args below meth c (gW D A s.heap) nL (cells + 1) (slots + N') Q (ws ++ [(q, .inl (cA, a0))]) (pc + 2) lv (.ref q :: st)) : kJ p l e R s m args below meth c (gW D A s.heap) nL cells slots Q ws pc lv (.int x :: st) := by
  intro H locs ls hG hl
  have h1 := k_arr E hne ht
  refine va_newa E.1 E.2.1 (by rw [hty]; exact E.2.2.2.2.1 _ harr) hty E.2.2.2.2.2.1.1 hG.1 hG.2.1 hG.2.2 hA ha hn hN hbytes hcells hslots d ?_
  intro q C H1 hK2 hP2 hD2 hS2
  have h2 := hne C (hK2.2 (kTy k).length (C, ty) (by rw [List.getElem?_append_right (Nat.le_refl _), Nat.sub_self]; rfl)).2
  have e := Option.some.inj (h1.symm.trans h2)
  subst e
  exact K q H1 locs ls ⟨hP2, hD2, hS2⟩ hl
theorem k_new (E : kE p s m args c own cc nL D (kTy k) (gW D A s.heap)) (hA : ∀ q, s.heap.size ≤ q → A q) {C : String} {T : u_T} {N ci index : Nat} (hin : ∀ w ∈ u_ws C T N, w ∈ lw_all) (ty : Nat → FieldType) (hty : ∀ k, k < N → parseFieldDescriptor (T k).2.2.1 = some (ty k)) (hcl : Cond.classLink own index C ∈ lw_all) (hinst : Cond.instantiable C N ∈ lw_all) (hini : Cond.initialized C ∈ lw_all) (hc : kCl[ci]? = some (C, T, N)) (fs : List Value) (hfs : ∀ j, j < N → defaultValue (ty j) = vp_V fs j) (hcells : cells + 1 ≤ R.cells) (hslots : slots + N ≤ R.slots) (d : decode cc pc = .ok (.new index, 3))
    (K : ∀ q : Nat, kJ p l e R s m args below meth c (gW D A s.heap) nL (cells + 1) (slots + N) Q (ws ++ [(q, .inr (ci, fs))]) (pc + 3) lv (.ref q :: st)) : kJ p l e R s m args below meth c (gW D A s.heap) nL cells slots Q ws pc lv st := fun H locs ls hG hl =>
  va_new E.1 E.2.1 E.2.2.2.2.1 hin ty hty E.2.2.2.1 (E.2.2.2.2.1 _ hcl) (E.2.2.2.2.1 _ hinst) (E.2.2.2.2.1 _ hini) E.2.2.2.2.2.1.1 hG.1 hG.2.1 hG.2.2 hA hc hfs hcells hslots d (fun q H1 hP hD hS => K q H1 locs ls ⟨hP, hD, hS⟩ hl)
/-! the rows of new int[6][5], as cells of the world -/
theorem k_mna (E : kE p s m args c own cc nL D (kTy k) (gW D A s.heap)) (hA : ∀ q, s.heap.size ≤ q → A q) {index : Nat} (hcl : Cond.classLink own index "[[I" ∈ lw_all) (hcells : cells + 7 ≤ R.cells) (hslots : slots + 36 ≤ R.slots) (d : decode cc pc = .ok (.multianewarray index 2, 4))
    (K : ∀ (q : Nat) (r : Nat → Nat), kJ p l e R s m args below meth c (gW D A s.heap) nL (cells + 1 + 6) (slots + 6 + 6 * 5) Q (ws ++ ([(q, .inl (k 5, 6, .inr (.inr (.inr (.inr (fun i => if i < 6 then some (r i) else none))))))] ++ [(r 0, .inl (k 0, 5, .inl (fun _ => 0))), (r 1, .inl (k 0, 5, .inl (fun _ => 0))), (r 2, .inl (k 0, 5, .inl (fun _ => 0))), (r 3, .inl (k 0, 5, .inl (fun _ => 0))), (r 4, .inl (k 0, 5, .inl (fun _ => 0))), (r 5, .inl (k 0, 5, .inl (fun _ => 0)))])) (pc + 4) lv (.ref q :: st)) : kJ p l e R s m args below meth c (gW D A s.heap) nL cells slots Q ws pc lv (.int 5 :: .int 6 :: st) := by
  intro H locs ls hG hl
  have h0 : s.vm.findClass (FieldType.array .int).toString = some (k 0) := k_arr E (t0 := 0) (ty := .int) (fun _ h => h) rfl
  have h5 : s.vm.findClass ("[" ++ (FieldType.array .int).toString) = some (k 5) := k_arr E (t0 := 5) (ty := .array .int) (fun _ h => h) rfl
  have hK := E.2.2.2.2.2.1
  refine va_mna (X := ws) (L := []) (f := fun _ => .inl (k 0, 5, .inl (fun _ => 0))) (z := (5, .inl (fun _ => 0))) E.1 E.2.1 E.2.2.2.1 (E.2.2.2.2.1 _ hcl) hK.2.2.2.2.2.2.2 (E.2.2.2.2.1 _ q_52) h0 hK.1 (by rw [va_pl, List.map_nil, List.append_nil]; exact hG.1) (by rw [va_pl, List.map_nil, List.append_nil]; exact hG.2.1) hG.2.2 hA (by decide) (by decide) (N' := 6) (K' := 5) (by decide) (by decide) (by decide) (by decide) (by decide) (by decide) (by decide) hcells hslots (fun _ => rfl) d ?_
  intro q r C H1 hr _ hK2 hP2 hD2 hS2
  have h6 : s.vm.findClass ("[" ++ (FieldType.array .int).toString) = some C := (hK2.2 (kTy k).length (C, .array .int) (by rw [List.getElem?_append_right (Nat.le_refl _), Nat.sub_self]; rfl)).2
  have e := Option.some.inj (h5.symm.trans h6)
  subst e
  have hw : (ws ++ [(q, Sum.inl (k 5, 6, .inr (.inr (.inr (.inr (fun i => if i < 6 then some (r i) else none))))))]) ++ va_pl ([] ++ (List.range 6).map r) (vr_up (fun _ => .inl (k 0, 5, .inl (fun _ => 0))) ((List.range 6).map r) (.inl (k 0, (5, .inl (fun _ => 0))))) = ws ++ ([(q, .inl (k 5, 6, .inr (.inr (.inr (.inr (fun i => if i < 6 then some (r i) else none))))))] ++ [(r 0, .inl (k 0, 5, .inl (fun _ => 0))), (r 1, .inl (k 0, 5, .inl (fun _ => 0))), (r 2, .inl (k 0, 5, .inl (fun _ => 0))), (r 3, .inl (k 0, 5, .inl (fun _ => 0))), (r 4, .inl (k 0, 5, .inl (fun _ => 0))), (r 5, .inl (k 0, 5, .inl (fun _ => 0)))]) := by
    rw [List.append_assoc]
    congr 2
    have hu : vr_up (fun _ => (Sum.inl (k 0, 5, .inl (fun _ => 0)) : va_E)) ((List.range 6).map r) (.inl (k 0, (5, .inl (fun _ => 0)))) = fun _ => .inl (k 0, 5, .inl (fun _ => 0)) := by
      funext a
      simp [vr_up]
    rw [hu]
    rfl
  rw [hw] at hP2 hD2
  exact K q r H1 locs ls ⟨hP2, hD2, hS2⟩ hl
/-! contracts with a world to be found -/
def kQe (v : Option Value) (D : va_G) (W0 : va_W) (PW : va_W → Prop) (sz : Nat) : Array Value → State → Outcome → State → Prop := fun a st o t => ∃ W1, PW W1 ∧ kQw v D W0 W1 sz a st o t
def mE (l : Launch) (y : MethodName) (bytes : ByteArray) (nL : Nat) (ret : Option FieldType) (f lo mc ms : Nat) (D : va_G) (tys : List (ClassId × FieldType)) (av : List Value) (W0 : va_W) (v : Option Value) (PW : va_W → Prop) : Prop := ∀ sz : Nat, Met l y (kws y bytes nL ret) (kRmc f lo mc ms) (va_Pc av (fun U => U.heap.size = sz ∧ va_P D kCl W0 U.heap ∧ kK D tys U ∧ va_D (fun _ => True) W0)) (kQe v D W0 PW sz) mc ms (va_A W0 sz)
theorem mE.of {tys : List (ClassId × FieldType)} {y : MethodName} {bytes : ByteArray} {ret : Option FieldType} {f lo mc ms : Nat} {av : List Value} {W0 : va_W} {PW : va_W → Prop} {v : Option Value} {lv' : List (Nat × Value)} (hy : plainName y.cls = true) (hlen : (lg_sl av).length ≤ nL) (hlv : lv_args 0 av = lv') (body : ∀ (p : Program) (e : Env) (s : State) (m : MethodId) (args : Array Value) (below : List Frame) (meth : Method) (c : Code), kE p s m args c y.cls bytes nL D tys (gW D (va_A W0 s.heap.size) s.heap) → meth.sig.returnType = ret → meth.locks = false → meth.name = y.name → (∀ q, s.heap.size ≤ q → va_A W0 s.heap.size q) → kJ p l e (kRmc f lo mc ms) s m args below meth c (gW D (va_A W0 s.heap.size) s.heap) nL 0 0 (MQ below (kQe v D W0 PW s.heap.size) args s mc ms (va_A W0 s.heap.size)) W0 0 lv' []) : mE l y bytes nL ret f lo mc ms D tys av W0 v PW := by
  intro sz
  refine Met.ofW (cc := bytes) (maxL := nL) (ret := ret) hy rfl ?_
  intro p e s m args below meth c s₁ B hml hv
  obtain ⟨rfl, hsz, hP, hK, hD⟩ := hv
  subst hsz
  have hts := atoms_spec (ws := kws y bytes nL ret) B.pre
  have hown : s.vm.findClass y.cls = some m.cls := findClass_of_methodNamed B.named
  have hl := lv_entry av (n := nL) hlen
  have hin : meth.name = y.name := (name_of_methodNamed B.named B.method).1
  rw [lg_entry_eq]
  exact body p e s m _ below meth c ⟨B.exec, B.bytes, hml, hown, fun w h => hts w (List.mem_cons_of_mem _ h), hK, fun _ _ _ hG => hG.1⟩ B.returns B.notSynchronized hin (fun q h => Or.inr h) s.heap [] _ ⟨hP, hD.self, va_S.rf⟩ (hlv ▸ hl)
theorem ke_vret {tys : List (ClassId × FieldType)} {W0 : va_W} {PW : va_W → Prop} {mc ms : Nat} (E : kE p s m args c own cc nL D tys (gW D (va_A W0 s.heap.size) s.heap)) (hr : meth.sig.returnType = none) (hlk : meth.locks = false) (hw : PW ws) (hc : cells ≤ mc) (hs : slots ≤ ms) (d : decode cc pc = .ok (.return_, 1)) : kJ p l e R s m args below meth c (gW D (va_A W0 s.heap.size) s.heap) nL cells slots (MQ below (kQe none D W0 PW s.heap.size) args s mc ms (va_A W0 s.heap.size)) ws pc lv [] :=
  kJ.mono (fun t ht => by
    obtain ⟨o, h1, h2, h3, h4⟩ := ht
    exact ⟨o, h1, h2, ⟨ws, hw, h3⟩, h4⟩) (kw_vret (W1 := ws) (v := none) E hr hlk rfl rfl hc hs d)
theorem kRun_E {v : Option Value} {a : Array Value} {st0 : List Value} {pre post Wc : va_W} {PW : va_W → Prop} {mc ms : Nat} (hws : ws = pre ++ (Wc ++ post)) (hA : ∀ q, s.heap.size ≤ q → A q) (hr : ∀ (H : Heap) (locs : List Loc) (ls : Array Slot), gW D A s.heap ws H locs → lv_has ls nL lv → va_Run p l e R s m args below meth c H locs cells slots mc ms (F0 m pc ls st0) st (kQe v D Wc PW H.size a) (va_A Wc H.size)) (K : ∀ W1, PW W1 → kJ p l e R s m args below meth c (gW D A s.heap) nL (cells + mc) (slots + ms) Q (pre ++ (W1 ++ post)) (pc + 3) lv (v.toList ++ st)) : kJ p l e R s m args below meth c (gW D A s.heap) nL cells slots Q ws pc lv st0 := by
  intro H locs ls hG hl T hT X
  obtain ⟨v', st₀, t, T', L, h0, X', hL, e1, e2, ⟨W1, hPW, ho, hP1, hD1, hF1⟩, stp⟩ := hr H locs ls hG hl T hT X
  cases ho
  obtain ⟨hP, hD, hS⟩ := hG
  subst hws
  have hFc := k_freeM hD hS hA
  obtain ⟨k1, k2, k3⟩ := vx_keep h0 e1 hS (fun q _ h => hFc q h) hFc hL hF1
  rw [← e1] at hP1
  obtain ⟨hP2, hD2⟩ := k_mid hP hD k2 hFc hP1 hD1
  obtain ⟨t2, a1, b1⟩ := K W1 hPW T'.heap _ ls ⟨hP2, hD2, k3⟩ hl T' rfl X'
  exact ⟨t2, stp t2 a1, b1⟩
theorem k_callIE {tys : List (ClassId × FieldType)} {y : MethodName} {bytes : ByteArray} {maxL f lo n idx b mc ms : Nat} {Wc : va_W} {PW : va_W → Prop} {st0 : List Value} (As : List Value) (E : kE p s m args c own cc nL D tys (gW D A s.heap)) (hA : ∀ q, s.heap.size ≤ q → A q) (hM : mE l y bytes maxL none f lo mc ms D tys (.ref b :: As) Wc none PW) (F : kCI y bytes maxL n) (hlk : Cond.methodLink own idx y ∈ lw_all) (pre post : va_W) (hws : ws = pre ++ (Wc ++ post)) (hst : st0 = As.reverse ++ .ref b :: st) (hn : As.length = n) (hR : f + 1 ≤ R.frames ∧ 8 + (maxL + 11) + lo ≤ R.locals) (hcat : (st.map fun v => v.category).sum ≤ 8) (hc : cells + mc ≤ R.cells ∧ slots + ms ≤ R.slots) (d : decode cc pc = .ok (.invokespecial idx, 3)) (K : ∀ W1, PW W1 → kJ p l e R s m args below meth c (gW D A s.heap) nL (cells + mc) (slots + ms) Q (pre ++ (W1 ++ post)) (pc + 3) lv st) : kJ p l e R s m args below meth c (gW D A s.heap) nL cells slots Q ws pc lv st0 := by
  subst hst
  refine kRun_E (v := none) (a := (Value.ref b :: As).toArray) hws hA (fun H locs ls hG hl => ?_) K
  exact va_runI (nL := nL) (g := F0 m pc ls _) ⟨E.1, E.2.1, E.2.2.1, E.2.2.2.1, E.2.2.2.2.1⟩ (hM H.size) (cwI n E.2.2.2.2.1 (kws_in F.1) rfl rfl rfl (E.2.2.2.2.1 _ F.2.2.1) (E.2.2.2.2.1 _ hlk) (E.2.2.2.2.1 _ F.2.1) F.2.2.2.1 ⟨F.2.2.2.2.1.1, F.2.2.2.2.1.2, F.2.2.2.2.2⟩ hR) ⟨kFBw, fun U hU hW => ⟨rfl, by rw [hU], by rw [hU]; exact kPs (hws ▸ hG.1), kK.moved hW E.2.2.2.2.2.1, (kDs (hws ▸ hG.2.1)).weaken (fun _ _ _ _ => trivial)⟩⟩ rfl hn hl.1 rfl (lv_room hcat) d hc
theorem k_callIEN {tys : List (ClassId × FieldType)} {y : MethodName} {bytes : ByteArray} {maxL f lo n idx b mc ms : Nat} {Wc : va_W} {PW : va_W → Prop} {st0 : List Value} (As : List Value) (E : kE p s m args c own cc nL D tys (gW D A s.heap)) (hA : ∀ q, s.heap.size ≤ q → A q) (hM : mE l y bytes maxL none f lo mc ms D tys (.ref b :: As) Wc none PW) (F : kCI y bytes maxL n) (hown : own = RX2) (hlk : (idx, y) ∈ kNM) (pre post : va_W) (hws : ws = pre ++ (Wc ++ post)) (hst : st0 = As.reverse ++ .ref b :: st) (hn : As.length = n) (hR : f + 1 ≤ R.frames ∧ 8 + (maxL + 11) + lo ≤ R.locals) (hcat : (st.map fun v => v.category).sum ≤ 8) (hc : cells + mc ≤ R.cells ∧ slots + ms ≤ R.slots) (d : decode cc pc = .ok (.invokespecial idx, 3)) (K : ∀ W1, PW W1 → kJ p l e R s m args below meth c (gW D A s.heap) nL (cells + mc) (slots + ms) Q (pre ++ (W1 ++ post)) (pc + 3) lv st) : kJ p l e R s m args below meth c (gW D A s.heap) nL cells slots Q ws pc lv st0 := by
  subst hst
  subst hown
  refine kRun_E (v := none) (a := (Value.ref b :: As).toArray) hws hA (fun H locs ls hG hl => ?_) K
  exact va_runIN (nL := nL) (g := F0 m pc ls _) ⟨E.1, E.2.1, E.2.2.1, E.2.2.2.1, E.2.2.2.2.1⟩ (hM H.size) ⟨va_cnB n E.2.2.2.2.1 (kws_in F.1) rfl rfl rfl (E.2.2.2.2.2.1.2.2.1 _ hlk) (E.2.2.2.2.1 _ F.2.2.1) ⟨F.2.2.2.2.1.1, F.2.2.2.2.1.2, F.2.2.2.2.2⟩ hR, F.2.2.2.1, E.2.2.2.2.1 _ F.2.1⟩ ⟨kFBw, fun U hU hW => ⟨rfl, by rw [hU], by rw [hU]; exact kPs (hws ▸ hG.1), kK.moved hW E.2.2.2.2.2.1, (kDs (hws ▸ hG.2.1)).weaken (fun _ _ _ _ => trivial)⟩⟩ rfl hn hl.1 rfl (lv_room hcat) d hc
/-- a world's cells in another order -/
theorem k_perm {ws' : va_W} (is : List Nat) (h1 : is.filterMap (fun i => ws[i]?) = ws') (h2 : is.Nodup) (h3 : is.length = ws'.length) (h4 : ∀ i, i < ws.length → i ∈ is) (K : kJ p l e R s m args below meth c (gW D A s.heap) nL cells slots Q ws' pc lv st) : kJ p l e R s m args below meth c (gW D A s.heap) nL cells slots Q ws pc lv st := by
  intro H locs ls hG hl
  obtain ⟨hP, hD, hS⟩ := hG
  have key : ∀ (is : List Nat) (ws' : va_W), is.filterMap (fun i => ws[i]?) = ws' → is.length = ws'.length → ∀ (j : Nat) (q : Nat × va_E), ws'[j]? = some q → ∃ i, is[j]? = some i ∧ ws[i]? = some q := by
    intro is
    induction is with
    | nil =>
      intro ws' h _ j q hq
      rw [← h] at hq
      cases hq
    | cons x t ih =>
      intro ws' h hlen j q hq
      rw [List.filterMap_cons] at h
      cases hx : ws[x]? with
      | none =>
        rw [hx] at h
        have h5 := List.length_filterMap_le (fun i => ws[i]?) t
        simp only at h
        rw [h] at h5
        simp only [List.length_cons] at hlen
        omega
      | some y =>
        rw [hx] at h
        simp only at h
        subst h
        cases j with
        | zero =>
          cases hq
          exact ⟨x, rfl, hx⟩
        | succ j =>
          simp only [List.length_cons, Nat.succ.injEq, Nat.add_right_cancel_iff] at hlen
          exact ih _ rfl hlen j q hq
  have kk := key is ws' h1 h3
  refine K H locs ls ⟨fun j q hq => ?_, ⟨fun i j x y hi hj hxy => ?_, fun j q hq => ?_⟩, hS⟩ hl
  · obtain ⟨i, -, hi⟩ := kk j q hq
    exact hP i q hi
  · obtain ⟨i', hi', hi2⟩ := kk i x hi
    obtain ⟨j', hj', hj2⟩ := kk j y hj
    have e := hD.1 i' j' x y hi2 hj2 hxy
    subst e
    have hl1 := (List.getElem?_eq_some_iff.mp hi').1
    exact (List.getElem?_inj hl1 h2).mp (hi'.trans hj'.symm)
  · obtain ⟨i, -, hi⟩ := kk j q hq
    exact hD.2 i q hi
end KC
