section NX
variable {p : Program} {l : Launch} {e : Env} {R : Room} {s : State} {m : MethodId} {args : Array Value} {below : List Frame} {meth : Method} {c : Code}
abbrev nX : String := "java/util/NoSuchElementException"
abbrev nUp : List String := ["java/lang/RuntimeException", "java/lang/Exception"]
abbrev nB : ByteArray := prog_18_method_4_code
theorem nB_0 : decode nB 0 = .ok (.aload_n 0, 1) := by decide +kernel
theorem nB_1 : decode nB 1 = .ok (.aload_n 1, 1) := by decide +kernel
theorem nB_2 : decode nB 2 = .ok (.invokespecial 13, 3) := by decide +kernel
theorem nB_5 : decode nB 5 = .ok (.return_, 1) := by decide +kernel
def nAt (own : String) (ic : Nat) : List Cond := Bundle.ownAtomsX own ic nX 13 nB nUp
set_option maxHeartbeats 1000000 in
theorem nx_ctor {W : State} {cells slots : Nat} (X : Stand p l e R s m args below meth c W [] cells slots) (hexec : p.tables.exec = Jvm.exec) (htr : e.platform.stackTraces = false) {own : String} {ic : Nat}
    (hown : s.vm.findClass own = some m.cls) (h : ∀ w ∈ nAt own ic, w.before args s = true)
    {a : Addr} {cX : ClassId} {kX : Class} (hfX : s.vm.findClass nX = some cX) (hkX : s.vm.classes[cX]? = some kX) (hcell : W.heap[a]? = some (freshCell cX kX)) (hnew : s.heap.size ≤ a)
    {msg : Value} (hmsg : msg.isRef = true) {g : JFrame} (hg : g.method = m) (hsize : g.locals.size = c.maxLocals) (hlocked : g.locked = none) (hentered : g.entered = []) {rest : List Value} (hstack : g.stack = msg :: .ref a :: .ref a :: rest)
    (d6 : decode c.code g.pc = .ok (.invokespecial ic, 3)) (d9 : decode c.code (g.pc + 3) = .ok (.athrow, 1)) (hout : ∀ x ∈ c.exceptionTable.toList, covers x (g.pc + 3) = false)
    (hRf : 5 < R.frames) (hRl : 2 * g.monitorRoom + ((Value.ref a :: rest).map fun v => v.category).sum + 81 ≤ R.locals) (hlocks : meth.locks = false) :
    ∃ U : State, Steps p.tables e below (W.setTop g) U ∧ U.status = .running ∧ Ended U below (.threw a) ∧ s.WarmedH U.vm ∧ s.sameButNew ({ U with vm := s.vm } : State) [] cells slots ∧ ∃ ce, U.heap[a]? = some ce ∧ ce.cls = cX ∧ ce.vm = .none := by
  have hp := X.admits.platform
  have hpl : e.platform.magicAccessors = ({} : Platform).magicAccessors := by rw [hp]
  have w : ∀ x, x ∈ nAt own ic → x.holds args s none s [] = true := fun x hx => h x hx
  obtain ⟨T, Z0, L, -, Y⟩ := ThrowableC.of_atoms (args := args) (show e.platform.frameOwnsMonitors = true by rw [hp]) (show e.platform.finalization = false by rw [hp]) hpl (fun x hx => h x (by simp [nAt, Bundle.ownAtomsX, hx]))
  obtain ⟨Z, M, LZ, LM, hnZ⟩ := Init0T.ofS_atoms (args := args) hpl L Y (fun x hx => h x (by simp [nAt, Bundle.ownAtomsX, hx]))
  obtain ⟨P1, Ps, hlen, L1, hL, hP1, k1, k2⟩ := Bundle.chainSX (args := args) hpl hnZ nB_0 nB_1 nB_2 nB_5 nUp nX (by decide +kernel) (by decide +kernel) (fun x hx => h x (by simp [nAt, Bundle.ownAtomsX, hx]))
  have hlen : Ps.length = 2 := hlen
  have hf := findClass_of_methodNamed hP1
  cases Option.some.inj (hfX.symm.trans hf)
  obtain ⟨c1, kX', q1, hk, hord, -, -, -⟩ := Cond.instantiable_spec (w (.instantiable nX 6) (by simp [nAt, Bundle.ownAtomsX]))
  cases Option.some.inj (q1.symm.trans hf)
  cases Option.some.inj (hkX.symm.trans hk)
  have hsel : ∀ {t : MethodName} {b : MethodId}, (t.cls ≠ "java/lang/invoke/MethodHandle" ∧ t.cls ≠ "java/lang/invoke/VarHandle") → Cond.selects nX t t ∈ nAt own ic → s.methodNamed? t = some b → selectMethod e.platform s.vm P1.m.cls b = .method b := by
    intro t b hn hi hb
    obtain ⟨c2, r2, m2, r1, r3, r4, r5, -⟩ := Cond.selects_spec (w _ hi)
    cases Option.some.inj (r1.symm.trans hf)
    cases Option.some.inj (r3.symm.trans (State.methodFound?_of_named hb hn))
    cases Option.some.inj (r4.symm.trans hb)
    rw [Launch.admits_selectMethod X.admits]
    exact r5
  obtain ⟨cs0, hcs, his⟩ := Y.statics
  obtain ⟨u0, hu0⟩ := Cond.staticRefV Y.unassigned L.unassignedStatic L.statics hcs his (w (.isRef (.static Bundle.tN "UNASSIGNED_STACK" Bundle.steD)) (by simp [nAt, Bundle.ownAtomsX]))
  obtain ⟨sen, hsen⟩ := Cond.staticRefV Y.sentinel L.sentinelStatic L.statics hcs his (w (.isRef (.static Bundle.tN "SUPPRESSED_SENTINEL" Bundle.listD)) (by simp [nAt, Bundle.ownAtomsX]))
  obtain ⟨ci, ix, fB, b1, b2, b3, b4, -, hnB, htB, hffB⟩ := Cond.ownField (t := .object "java/lang/Object") Y.found L.cls (by decide +kernel) (w (.fieldLink Bundle.tN 198 Bundle.tN "backtrace" "Ljava/lang/Object;") (by simp [nAt, Bundle.ownAtomsX])) (w (.lays Bundle.tN Bundle.tN "backtrace" "Ljava/lang/Object;") (by simp [nAt, Bundle.ownAtomsX])) e.platform hpl
  obtain ⟨cs, hcs', heS, -, hkeep⟩ := X.same.2.2.2.2.2 T.aS cs0 hcs
  have hcs' : W.heap[T.aS]? = some cs := hcs'
  have hkn : cs.vm ≠ .unknown := by
    rw [heS]
    intro q
    rw [q] at his
    cases his
  have hne : T.aS ≠ a := Nat.ne_of_lt (Nat.lt_of_lt_of_le (Array.getElem?_eq_some_iff.mp hcs).1 hnew)
  obtain ⟨iM, hffM⟩ := Y.msg
  obtain ⟨tC, dC, eC, nC⟩ := Cond.laysAt hf hk Y.cause (w (.lays nX Bundle.tN "cause" "Ljava/lang/Throwable;") (by simp [nAt, Bundle.ownAtomsX]))
  obtain ⟨tS, dS, eS, nS⟩ := Cond.laysAt hf hk Y.stack (w (.lays nX Bundle.tN "stackTrace" Bundle.steD) (by simp [nAt, Bundle.ownAtomsX]))
  obtain ⟨tP, dP, eP, nP⟩ := Cond.laysAt hf hk Y.supp (w (.lays nX Bundle.tN "suppressedExceptions" Bundle.listD) (by simp [nAt, Bundle.ownAtomsX]))
  obtain ⟨tM, dM, eM, nM⟩ := Cond.laysAt hf hk hffM (w (.lays nX Bundle.tN "detailMessage" "Ljava/lang/String;") (by simp [nAt, Bundle.ownAtomsX]))
  obtain ⟨tB, dB, eB, nB'⟩ := Cond.laysAt hf hk hffB (w (.lays nX Bundle.tN "backtrace" "Ljava/lang/Object;") (by simp [nAt, Bundle.ownAtomsX]))
  have bC := Cond.laysApart eB eC nB' nC (by rw [hnB, Y.causeName]; decide)
  have bS := Cond.laysApart eB eS nB' nS (by rw [hnB, Y.stackName]; decide)
  have bP := Cond.laysApart eB eP nB' nP (by rw [hnB, Y.suppName]; decide)
  have hskip : SkipFacts T e.platform s (fun u => u) u0 ((preparedCellV T.toThrowableT (freshCell P1.m.cls kX) a u0 sen).withEntry W.cur) :=
    ⟨{ ci198 := ci, i198 := ix, fBack := fB }, ⟨b1, b2, b3, b4⟩, by
      have q := fresh_default (c := P1.m.cls) tB
      rw [htB] at q
      simpa [preparedCellV, Cell.setSlot, Cell.withEntry, Array.getElem?_setIfInBounds, bC, bS, bP, bC.symm, bS.symm, bP.symm, defaultValue] using q, fun _ _ => rfl⟩
  obtain ⟨tm, mC, cC, kC, vm₁, hnC, -, -, -, -, -, -, -, hW₁, st1⟩ := Steps.initColdS (tb := p.tables) (e := e) (below := below) (s := s) (U := W) X.here hexec X.warmed hpl hown (t := Bundle.initS nX) rfl rfl (Bundle.fit_spec (by decide +kernel)).2
    (w (.methodLink own ic (Bundle.initS nX)) (by simp [nAt, Bundle.ownAtomsX])) (h (.instanceMethod (Bundle.initS nX)) (by simp [nAt, Bundle.ownAtomsX, Bundle.chainSAtomsX, Bundle.passSAtoms])) (bytes := nB) (maxL := 2) (h (.code (Bundle.initS nX) nB 2 none) (by simp [nAt, Bundle.ownAtomsX, Bundle.chainSAtomsX, Bundle.passSAtoms]))
    (f := g) hg (a := a) (msg := msg) (rest := .ref a :: rest) hstack d6
  cases Option.some.inj (hnC.symm.trans hP1)
  have X₁ := X.noted hW₁
  obtain ⟨vm₂, X₂, st2⟩ := X₁.ctorMessageOffV hexec (g := { g with stack := .ref a :: rest }) hg hsize T L Z LZ M LM (P1 :: Ps)
    (fun Q hQ => (List.mem_cons.mp hQ).elim (fun q => q ▸ L1) (hL Q)) ⟨k1, k2⟩ (u0 := u0) (sen := sen) (self := a) hmsg (cell := freshCell P1.m.cls kX) (cellS := cs)
    hcell (fun _ => by simp) (by simp) rfl rfl (hsel (by decide) (by simp [nAt, Bundle.ownAtomsX]) Y.fill0) (hsel (by decide) (by simp [nAt, Bundle.ownAtomsX]) Y.fill) hcs' hne hkn (by rw [hkeep _ (fun q => nomatch q)]; exact hu0) (by rw [hkeep _ (fun q => nomatch q)]; exact hsen)
    (Takes.of_laid hk hord tC (by rw [Y.causeType]; rfl)) (Takes.of_laid hk hord tS (by rw [Y.stackType]; exact fits_refV_array _ u0)) (Takes.of_laid hk hord tP (by rw [Y.suppType]; exact fits_refV_object _ sen))
    (Takes.of_laid hk hord tM (by rw [Y.msgType]; exact fits_refV_object _ ⟨msg, hmsg⟩)) Y.objLocals hskip htr [] d6
    (by simp only [List.length_cons, hlen]; exact hRf) (by simp only [List.length_cons, hlen]; exact hRl)
  obtain ⟨hwalk, hrun, hend, hWU, hsame⟩ := X₂.athrowLeaves hexec (g := { g with stack := .ref a :: rest, pc := g.pc + 3 }) hg hlocked hentered hout (a := a) (rest := rest) rfl d9
  have hlt : a < ((W.setVm vm₁).setVm vm₂).heap.size := (Array.getElem?_eq_some_iff.mp hcell).1
  refine ⟨_, st1 _ (fun acts => ?_), hrun, hend, hWU, hsame.weaken (fun y hy hy2 => ?_) (Nat.le_refl _) (Nat.le_refl _), _, heapAt_setCell_self (s := (W.setVm vm₁).setVm vm₂) (plainBareV T.toThrowableT (freshCell P1.m.cls kX) a u0 sen msg) hlt, rfl, rfl⟩
  · rw [doInvoke_state]
    exact st2 _ hwalk
  · exfalso
    have hb : y.base = a := by
      simp only [List.nil_append, List.mem_cons, List.not_mem_nil, or_false] at hy
      rcases hy with q | q | q | q | q <;> rw [q]
    rw [hb] at hy2
    exact Nat.not_lt.mpr hnew hy2
def nAtS (own : String) (ic : Nat) : List Cond := (nAt own ic).filter vx_no
theorem gx_NSE : ∀ w ∈ (nAtS RX2 149).filter goodWord, w ∈ lw_all := fun w h => List.mem_filter.mpr ⟨(show ∀ w ∈ (nAtS RX2 149).filter goodWord, w ∈ lw_tbl by decide +kernel) w h, (List.mem_filter.mp h).2⟩
theorem bx_NSE : ∀ w ∈ (nAtS RX2 149).filter (fun w => !goodWord w), w ∈ kBadW := by decide +kernel
theorem ox_NSE : ∀ w ∈ Cond.classLink RX2 145 nX :: Cond.initialized nX :: nAtS RX2 149, vx_ot w = true := by decide +kernel
theorem lx_NSE : Cond.classLink RX2 145 nX ∈ lw_all := List.mem_filter.mpr ⟨by decide +kernel, by decide +kernel⟩
theorem ix_NSE : Cond.initialized nX ∈ lw_all := List.mem_filter.mpr ⟨by decide +kernel, by decide +kernel⟩
theorem nx_own {a : Array Value} {s : State} (h1 : ∀ w ∈ nAtS RX2 149, w.before a s = true) (hU : (Cond.isRef (.static Bundle.tN "UNASSIGNED_STACK" Bundle.steD)).before a s = true) (hN : (Cond.isRef (.static Bundle.tN "SUPPRESSED_SENTINEL" Bundle.listD)).before a s = true) (hU2 : (Cond.laysStatic Bundle.tN "UNASSIGNED_STACK" Bundle.steD).before a s = true) (hN2 : (Cond.laysStatic Bundle.tN "SUPPRESSED_SENTINEL" Bundle.listD).before a s = true) : ∀ w ∈ nAt RX2 149, w.before a s = true := vx_own h1 hU hN hU2 hN2

theorem k_throwN {own : String} {cc : ByteArray} {nL pc cells slots : Nat} {D : va_G} {tys : List (ClassId × FieldType)} {ws : va_W} {lv : List (Nat × Value)} {st : List Value} {W0 : va_W} {out : (Option Value × va_W) ⊕ String} {mc ms is : Nat} {text : String} (E : kE p s m args c own cc nL D tys (gW D (va_A W0 s.heap.size) s.heap)) (hlt : l.stackTraces = false) (hlk : meth.locks = false) (hex : ∀ x ∈ c.exceptionTable.toList, False) (hZ : kZ (va_A W0 s.heap.size) s s.heap) (hown : own = RX2) (ho : out = .inr nX) (hw : ws = W0) (hstr : (is, text) ∈ kSt) (d0 : decode cc pc = .ok (.new 145, 3)) (d3 : decode cc (pc + 3) = .ok (.dup, 1)) (d4 : decode cc (pc + 4) = .ok (.ldc is, 2)) (d6 : decode cc (pc + 6) = .ok (.invokespecial 149, 3)) (d9 : decode cc (pc + 9) = .ok (.athrow, 1)) (hRf : 5 < R.frames) (hRl : (st.map fun v => v.category).sum + 82 ≤ R.locals) (hRc : cells + 1 ≤ R.cells) (hRs : slots + 6 ≤ R.slots) (hc : cells + 1 ≤ mc) (hs : slots + 6 ≤ ms) : kJ p l e R s m args below meth c (gW D (va_A W0 s.heap.size) s.heap) nL cells slots (vx_MQ below (kXq out D W0 s.heap.size) (kXc out D W0 s.heap.size) args s mc ms (va_A W0 s.heap.size)) ws pc lv st := by
  intro H locs ls hG hl
  obtain ⟨hP, hD, hS⟩ := hG
  subst hw
  subst hown
  obtain ⟨sa, hsa⟩ := E.2.2.2.2.2.1.2.2.2.2.2.1 _ hstr
  have hexec := E.1
  have hb := E.2.1
  have hat : ∀ w ∈ nAtS RX2 149, w.before args s = true := vx_hat (fun w hw => E.2.2.2.2.1 _ (gx_NSE w hw)) bx_NSE (kBad E.2.2.2.2.2.1)
  intro T hT X
  have htr : e.platform.stackTraces = false := (show e.platform.stackTraces = l.stackTraces by rw [X.admits.platform]).trans hlt
  have Y := vx_rebase X (R' := { frames := R.frames, locals := R.locals, cells := 1, slots := 6 }) (Nat.le_refl _) (Nat.le_refl _) hRc hRs
  obtain ⟨s', hA⟩ : ∃ z, z = (T.setVm s.vm).setFrames (.invoking m args :: below) := ⟨_, rfl⟩
  rw [← hA] at Y
  have hvm : s'.vm = s.vm := by rw [hA]; rfl
  have hhp : s'.heap = H := by rw [hA]; exact hT
  have hW0 : s.WarmedH s'.vm := by rw [hvm]; exact State.WarmedH.refl s
  have hw' : ∀ w, vx_ot w = true → w.before args s = true → w.before args s' = true := fun w q1 q2 => vx_ot_at hW0 hvm.symm q1 q2
  have hU' : vx_Zq Bundle.tN "UNASSIGNED_STACK" Bundle.steD (va_A ws s.heap.size) s' s'.heap := by rw [hhp]; exact vx_Zq.moved hW0.alike (hZ.1.kept hS.2.1)
  have hN' : vx_Zq Bundle.tN "SUPPRESSED_SENTINEL" Bundle.listD (va_A ws s.heap.size) s' s'.heap := by rw [hhp]; exact vx_Zq.moved hW0.alike (hZ.2.kept hS.2.1)
  have h : ∀ w ∈ nAt RX2 149, w.before args s' = true := nx_own (fun w hw => hw' w (ox_NSE w (List.mem_cons_of_mem _ (List.mem_cons_of_mem _ hw))) (hat w hw)) (vx_isRefq hU'.1) (vx_isRefq hN'.1) hU'.2.word hN'.2.word
  have hown' : s'.vm.findClass RX2 = some m.cls := by rw [hvm]; exact E.2.2.2.1
  obtain ⟨vm₁, cX, kX, hfX, hkX, -, -, X₁, st1⟩ := Y.newCold hexec (own := RX2) (C := nX) (index := 145) (n := 6) hown' (hw' _ (ox_NSE _ List.mem_cons_self) (E.2.2.2.2.1 _ lx_NSE)) (h _ (by simp [nAt, Bundle.ownAtomsX])) (hw' _ (ox_NSE _ (List.mem_cons_of_mem _ List.mem_cons_self)) (E.2.2.2.2.1 _ ix_NSE))
    (g := F0 m pc ls st) rfl (by rw [hb]; exact d0) (Nat.le_refl _) (Nat.le_refl _)
  generalize hT1 : (T.setVm vm₁).pushCell { cls := cX, slots := kX.instanceTypes.map defaultValue, vm := .none } = T1 at X₁ st1
  have hcat : (Value.ref T.heap.size).category = 1 := rfl
  have hcellA : T1.heap[T.heap.size]? = some (freshCell cX kX) := by rw [← hT1]; exact State.heap_pushCell_size _ _
  have d3' : decode c.code (pc + 3) = .ok (.dup, 1) := by rw [hb]; exact d3
  have d4' : decode c.code (pc + 4) = .ok (.ldc is, 2) := by rw [hb]; exact d4
  have hstr' : vk_R RX2 is text sa s' := vk_R.warm hW0 hsa
  obtain ⟨U, hsteps, hrun, hend, hWU, hsame, ce, hce, hcc, hcv⟩ := nx_ctor X₁ hexec htr hown' h hfX hkX hcellA (by rw [hhp, hT]; exact Nat.le_refl _) (msg := .ref sa) rfl
    (g := { method := m, pc := pc + 6, locals := ls, stack := .ref sa :: .ref T.heap.size :: .ref T.heap.size :: st, locked := none }) rfl (hl.1.trans E.2.2.1.symm) rfl rfl (rest := st) rfl
    (by rw [hb]; exact d6) (by rw [hb]; exact d9) (fun x hx => (hex x hx).elim) hRf (by simp only [List.map_cons, List.sum_cons, hcat]; show 2 * 0 + _ + 81 ≤ R.locals; omega) hlk
  obtain ⟨f1, f2⟩ := vx_frame hsame
  rw [hhp] at f1 f2
  have hWs : s.WarmedH U.vm := State.WarmedH.trans hW0 hWU
  have hcl : s.vm.findClass nX = some ce.cls := by rw [hcc, ← hvm]; exact hfX
  have hall : s.sameButNew ({ U with vm := s.vm } : State) locs mc ms := by
    subst hA
    obtain ⟨e1, e2⟩ := hsame
    rw [State.setFrames_setFrames] at e1
    have h2 : (T.setVm s.vm).sameButNew ({ U with vm := s.vm } : State) [] (0 + 1) (0 + 6) := ⟨e1, e2⟩
    have h3 := X.same.trans h2
    rw [List.append_nil] at h3
    exact h3.mono hc hs
  have hkp : ∀ q : Nat, q < H.size → U.heap[q]? = H[q]? := fun q hq => f2 q hq (fun z hz => nomatch hz)
  have hx : kXc out D ws s.heap.size nX s U := ⟨ho, hP.kept (fun k q hq => hkp q.1 (hP k q hq).lt), hD, Nat.le_trans hS.1 f1, fun q h1 h2 => by rw [hkp q (Nat.lt_of_lt_of_le h1 hS.1)]; exact hS.2.1 q h1 h2⟩
  refine ⟨U, ?_, .threw T.heap.size, hrun, hend, Or.inr ⟨T.heap.size, rfl, nX, ce, locs, hx, hce, hcv, hcl, hWs, hall, hS.2.2⟩⟩
  refine st1 _ ?_
  show Steps p.tables e below (T1.setTop { method := m, pc := pc + 3, locals := ls, stack := .ref T.heap.size :: st, locked := none }) _
  jvm_step X₁.here [X₁.here.top, hexec, d3', Value.category]
  exact X₁.ldcString hexec (own := RX2) (text := text) (index := is) (a := sa) hown' hstr'.1 hstr'.2
    (g := { method := m, pc := pc + 4, locals := ls, stack := .ref T.heap.size :: .ref T.heap.size :: st, locked := none }) rfl d4' _ hsteps
end NX
