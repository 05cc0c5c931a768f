/-! THE CLAIM OUT OF ONE WALK OF THE LAW'S BODY. Your part is whole_start (and what it stands on); all else here is the same for every law, but numbers. -/
def R_law : String := "MilkRoundLaw"
def lw_P (b : Addr) (xs : List Int32) (args : Array Value) (s : State) : Prop := args = #[.ref b] ∧ s.IntsAt b xs ∧ xs.length ≤ 1536 ∧ (Jvm.Cond.and given_1 narrow_1).before args s = true
/-- what a walk over the start with the record d0 says of its end, said of the start itself -/
theorem lw_closed {s t : State} {o : Outcome} {d0 : Drawn} {L : List Loc} {k n : Nat} (hd0 : s.drawn.sameBut d0 lw_cs) (hv : ∃ v, o = .returned v) (hW : (s.setDrawn d0).WarmedH t.vm) (hs : (s.setDrawn d0).sameButNew ({ t with vm := s.vm } : State) L k n) : State.butDraws s t lw_cs (fun t1 => Framed s o t1 L k n) := by
  have h2 : t.drawn = d0 := congrArg State.drawn hs.1
  refine ⟨⟨hv, hW, State.sameButNew.setDrawn hs s.drawn⟩, ?_, by decide⟩
  rw [h2]
  exact hd0
def lw_Q (_ : Array Value) (s : State) (o : Outcome) (t : State) : Prop := o = .returned (some (.int 1)) ∧ State.butDraws s t lw_cs (fun t1 => Framed s o t1 [] 603072 7219306)
def lw_Z (below : List Frame) (a : Array Value) (s : State) : State → Prop := fun t => ∃ o, t.status = .running ∧ Ended t below o ∧ lw_Q a s o t
/-- the law's own end, with 1 on the stack, nothing written that was there before, its room as the claim has it; d0: the record of draws at this point (at the entry s.drawn: begin with 'refine W.base ?_' and 'have hd0 := Drawn.sameBut.refl s.drawn lw_cs') -/
theorem lw_ret {p : Program} {l : Launch} {e : Env} {s : State} {m : MethodId} {below : List Frame} {meth : Method} {c : Code} {b : Nat} {d0 : Drawn} (hd0 : s.drawn.sameBut d0 lw_cs) (hx : p.tables.exec = Jvm.exec) (hb : c.code = code) (hr : meth.sig.returnType = ret) (hlocks : meth.locks = false) {pc : Nat} {H : Heap} {ls : Array Slot} (hdg : decode code pc = .ok (.ireturn, 1)) : W p l e room_1 (s.setDrawn d0) m #[Value.ref b] below meth c H [] 603072 7219306 (lw_Z below #[Value.ref b] s) (F0 m pc ls [.int 1]) := by
  intro T hT X
  obtain ⟨fs, hret, hrun, hended, hW, hframe⟩ := X.leave (v := some (.int 1)) (hlocks := hlocks) (fun h => by rw [hr] at h; cases h)
  have hmeth' : T.vm.method? m = some meth := X.method'
  refine ⟨T.setFrames fs, ?_, .returned (some (.int 1)), hrun, hended, rfl, lw_closed hd0 ⟨_, rfl⟩ hW hframe⟩
  jvm_step X.here [X.here.top, hx, hb, hdg, hmeth', hr, ret, narrow_b1]
  (try refine ⟨rfl, ?_⟩); (try refine ⟨rfl, ?_⟩)
  first | (intro acts; rw [hret _ acts rfl rfl rfl]) | rw [hret _ _ rfl rfl rfl]
  exact Steps.refl _
/-- what holds at the law's entry: the machine, the code, the tables' words (any of lw_tbl by 'hts w (by decide +kernel)'), the script of L ints xs at the cell b, what the Statement gives of the start (any of its parts by flat_of_before) -/
def lw_At (p : Program) (s : State) (m : MethodId) (meth : Method) (c : Code) (b L : Nat) (xs : Nat → Int32) : Prop :=
  p.tables.exec = Jvm.exec ∧ c.code = code ∧ meth.sig.returnType = ret ∧ c.maxLocals = 9 ∧ s.vm.findClass R_law = some m.cls ∧ (∀ w ∈ lw_tbl, w.before #[Value.ref b] s = true) ∧ va_X b L xs s s.heap ∧ b < s.heap.size ∧ meth.locks = false ∧ (Jvm.Cond.and given_1 narrow_1).before #[Value.ref b] s = true
theorem law_K {s : State} {b : Nat} (hts : ∀ w ∈ lw_tbl, w.before #[Value.ref b] s = true) (hgv : (Jvm.Cond.and given_1 narrow_1).before #[Value.ref b] s = true) : (∃ (D : va_G) (k : Nat → ClassId), kK D (kTy k) s) ∧ kZ (fun q => s.heap.size ≤ q) s s.heap := by
  have hs := flat_of_before _ hgv
  refine ⟨?_, ?_⟩
  · obtain ⟨c0, i0, h0⟩ := u_known (C := "MilkRound$Farms") (T := TX0) (N := 5) (n := 5) hts (fun w h => lw_all_tbl (inX0 w h)) (hts _ (lw_all_tbl q_26))
    obtain ⟨c1, i1, h1⟩ := u_known (C := "MilkRound$Samples") (T := TX1) (N := 8) (n := 8) hts (fun w h => lw_all_tbl (inX1 w h)) (hts _ (lw_all_tbl q_54))
    obtain ⟨c2, i2, h2⟩ := u_known (C := "MilkRound") (T := TX2) (N := 9) (n := 9) hts (fun w h => lw_all_tbl (inX2 w h)) (hts _ (lw_all_tbl q_18))
    obtain ⟨c3, i3, h3⟩ := u_known (C := "MilkRoundModel") (T := TX3) (N := 21) (n := 21) hts (fun w h => lw_all_tbl (inX3 w h)) (hts _ (lw_all_tbl q_670))
    have harr : ∀ ty : FieldType, Cond.arrayClass ty ∈ lw_tbl → ∃ c : ClassId, ArrOfT s c ty ∧ s.vm.findClass ("[" ++ ty.toString) = some c := fun ty h => by
      obtain ⟨c, kA, comp, e1, e2, e3⟩ := Cond.arrayClass_spec (hts _ h)
      exact ⟨c, fun N z => ⟨(fun k h => by cases h), kA, e2, comp, e3⟩, e1⟩
    obtain ⟨k0, a0, b0⟩ := harr .int (lw_all_tbl q_52)
    obtain ⟨k1, a1, b1⟩ := harr .char (lw_all_tbl q_91)
    obtain ⟨k2, a2, b2⟩ := harr .boolean (lw_all_tbl q_90)
    obtain ⟨k3, a3, b3⟩ := harr .long (lw_all_tbl q_927)
    obtain ⟨k4, a4, b4⟩ := harr .double (lw_all_tbl q_928)
    have hao : va_AOA .int s := va_AOA.of (A := #[Value.ref b]) (hts _ (by decide +kernel))
    obtain ⟨comp, k5, kA, -, -, e2, e3, b5⟩ := kAO_spec hao
    have a5 : ArrOfT s k5 (.array .int) := fun N z => ⟨(fun k h => by cases h), kA, e2, comp, e3⟩
    refine ⟨(fun c => [c0, c1, c2, c3].getD c 0, fun c => [i0, i1, i2, i3].getD c (fun _ => 0)), fun i => [k0, k1, k2, k3, k4, k5].getD i 0, ⟨?_, ?_⟩, ?_, ?_, ?_, ?_, ?_, ?_, hao⟩
    · intro c q hq
      match c, hq with
      | 0, hq => cases hq; exact h0
      | 1, hq => cases hq; exact h1
      | 2, hq => cases hq; exact h2
      | 3, hq => cases hq; exact h3
      | c + 4, hq => simp [kCl] at hq
    · intro i q hq
      match i, hq with
      | 0, hq => cases hq; exact ⟨a0, b0⟩
      | 1, hq => cases hq; exact ⟨a1, b1⟩
      | 2, hq => cases hq; exact ⟨a2, b2⟩
      | 3, hq => cases hq; exact ⟨a3, b3⟩
      | 4, hq => cases hq; exact ⟨a4, b4⟩
      | 5, hq => cases hq; exact ⟨a5, b5⟩
      | i + 6, hq => simp [kTy] at hq
    · intro q hq
      exact va_Nw.of rfl (hts _ ((show ∀ q ∈ kNF, Cond.fieldLinkNest RX2 q.1 q.2.1 q.2.2.1 q.2.2.2 RX2 ∈ lw_tbl by decide +kernel) q hq))
    · intro q hq
      exact va_Nw.of rfl (hts _ ((show ∀ q ∈ kNM, Cond.methodLinkNest RX2 q.1 q.2 RX2 ∈ lw_tbl by decide +kernel) q hq))
    · intro q hq
      exact va_Nw.of rfl (hts _ ((show ∀ q ∈ kCa, Cond.castable q.1 q.2 ∈ lw_tbl by decide +kernel) q hq))
    · intro q hq
      exact va_Nw.of rfl (hts _ ((show ∀ q ∈ kDe, Cond.declares q ∈ lw_tbl by decide +kernel) q hq))
    · intro q hq
      have e1 := hts _ ((show ∀ q ∈ kSt, Cond.stringRef RX2 q.1 q.2 ∈ lw_tbl by decide +kernel) q hq)
      have e2 : (Cond.exactly (Term.string RX2 q.1) "java/lang/String").before #[Value.ref b] s = true := by
        refine hs _ ?_
        clear e1
        revert q
        decide +kernel
      obtain ⟨a, _, _, _, e3, -⟩ := Cond.exactly_spec e2
      exact ⟨a, vk_R.of e1 e3⟩
    · intro q hq
      refine va_Nc.of (args := #[Value.ref b]) (hs _ ?_)
      revert q
      decide +kernel
  · exact ⟨vx_Zqof (args := #[Value.ref b]) (hts _ (by decide +kernel)) (hts _ (by decide +kernel)) (hs _ (by decide +kernel)) (fun a h => Nat.not_le.mpr h), vx_Zqof (args := #[Value.ref b]) (hts _ (by decide +kernel)) (hts _ (by decide +kernel)) (hs _ (by decide +kernel)) (fun a h => Nat.not_le.mpr h)⟩
theorem and31 (x : Int32) : ∃ v : Nat, v < 32 ∧ x &&& 31 = nI v := by
  refine ⟨x.toBitVec.toNat % 32, Nat.mod_lt _ (by decide), Int32.toBitVec.inj (BitVec.eq_of_toNat_eq ?_)⟩
  show (x.toBitVec &&& (31 : Int32).toBitVec).toNat = (BitVec.ofNat 32 (x.toBitVec.toNat % 32)).toNat
  rw [BitVec.toNat_and, BitVec.toNat_ofNat, show (31 : Int32).toBitVec.toNat = 2 ^ 5 - 1 by decide, Nat.and_two_pow_sub_one_eq_mod]
  omega
set_option maxRecDepth 100000 in
set_option maxHeartbeats 4000000 in
theorem law_loop {p : Program} {e : Env} {s : State} {m : MethodId} {args : Array Value} {below : List Frame} {meth : Method} {c : Code} {Q : State → Prop} {A : Nat → Prop} {l : Launch} {D : va_G} {k : Nat → ClassId} {aM aR rr : Nat → Nat} {sc L ao ad : Nat} {xs : Nat → Int32} (E : kE p s m args c "MilkRoundLaw" cL_law 9 D (kTy k) (gW D A s.heap)) (hA : ∀ q, s.heap.size ≤ q → A q) (hZ : kZ A s s.heap) (hX : va_X sc L xs s s.heap) (hbl : sc < s.heap.size) (hbA : ¬ A sc) (hL : L ≤ 1536) (hlt : l.stackTraces = false)
    (hend : ∀ (cells slots : Nat) (ws : va_W) (lv : List (Nat × Value)), cells ≤ 603072 → slots ≤ 7219306 → kJ p l e (kRmc 21 10870 603072 7219306) s m args below meth c (gW D A s.heap) 9 cells slots Q ws 1737 lv [.int 1]) :
    ∀ (dn t : Nat), t + dn = 600 → KLoop p l e (kRmc 21 10870 603072 7219306) s m args below meth c D A 9 (200 + 4 * t) (4000 + 24 * t) Q 28 [(5, .int (nI (3 * t))), (0, .ref sc), (1, .ref (aR 0)), (2, .ref (aM 0)), (3, .ref ao), (4, .ref ad)] k aM aR rr ao ad := by
  intro dn
  induction dn with
  | zero =>
    intro t ht lf df dy nf nv nb n rooms tanks bests cows bst vrooms inv vsh itk farm amount mark place number paid blamed ways vis ub rounds thr R
    refine k_iload E 0 rfl dL_law_28 ?_
    refine k_aload_n E 1 rfl rfl dL_law_30 ?_
    refine k_slen E hX hbl hbA dL_law_31 ?_
    refine k_iconst E (v := 3) (by decide) dL_law_32 ?_
    refine k_isub E dL_law_33 ?_
    refine k_icmp_gt E (tgt := 1736) (by decide) dL_law_34 (fun _ => ?_) (fun q => absurd (by rw [tlt, ts, tn (by omega), tn (by omega)] <;> rw [show (3 : Int32).toInt = 3 by decide] <;> (try rw [tn (by omega)]) <;> omega) q)
    refine k_iconst E (v := 1) (by decide) dL_law_1736 ?_
    exact hend _ _ _ _ (by omega) (by omega)
  | succ dn ih =>
    intro t ht lf df dy nf nv nb n rooms tanks bests cows bst vrooms inv vsh itk farm amount mark place number paid blamed ways vis ub rounds thr R
    have e3 : (nI L - 3).toInt = L - 3 := by
      rw [ts] <;> rw [tn (by omega), show (3 : Int32).toInt = 3 by decide] <;> omega
    have e4 : (nI (3 * t)).toInt = (3 * t : Nat) := tn (by omega)
    refine k_iload E 0 rfl dL_law_28 ?_
    refine k_aload_n E 1 rfl rfl dL_law_30 ?_
    refine k_slen E hX hbl hbA dL_law_31 ?_
    refine k_iconst E (v := 3) (by decide) dL_law_32 ?_
    refine k_isub E dL_law_33 ?_
    refine k_icmp_gt E (tgt := 1736) (by decide) dL_law_34 (fun _ => ?_) (fun hc => ?_)
    · refine k_iconst E (v := 1) (by decide) dL_law_1736 ?_
      exact hend _ _ _ _ (by omega) (by omega)
    · rw [tlt, e3, e4] at hc
      have hip : 3 * t + 3 ≤ L := by omega
      have KL : KLoop p l e (kRmc 21 10870 603072 7219306) s m args below meth c D A 9 (200 + 4 * t + 4) (4000 + 24 * t + 24) Q 1730 [(5, .int (nI (3 * t))), (0, .ref sc), (1, .ref (aR 0)), (2, .ref (aM 0)), (3, .ref ao), (4, .ref ad)] k aM aR rr ao ad := by
        intro lf df dy nf nv nb n rooms tanks bests cows bst vrooms inv vsh itk farm amount mark place number paid blamed ways vis ub rounds thr R
        refine k_iinc (q := 0) (v := nI (3 * (t + 1))) (lv' := [(5, .int (nI (3 * (t + 1)))), (0, .ref sc), (1, .ref (aR 0)), (2, .ref (aM 0)), (3, .ref ao), (4, .ref ad)]) E rfl (by rw [show 3 * (t + 1) = 3 * t + 3 from by omega]; exact nI_add (3 * t) 3) (by decide) rfl dL_law_1730 ?_
        refine k_goto E (tgt := 28) (by decide) dL_law_1733 ?_
        exact k_widen (by omega) (by omega) (ih (t + 1) (by omega) lf df dy nf nv nb n rooms tanks bests cows bst vrooms inv vsh itk farm amount mark place number paid blamed ways vis ub rounds thr R)
      have hcap : 200 + 4 * t + 4 ≤ 603072 ∧ 4000 + 24 * t + 24 ≤ 7219306 := ⟨by omega, by omega⟩
      refine k_aload_n E 1 rfl rfl dL_law_37 ?_
      refine k_iload E 0 rfl dL_law_38 ?_
      refine k_sld E hX hbl hbA (show 3 * t < L by omega) hL rfl dL_law_40 ?_
      refine k_bipush E (v := 31) (by decide) dL_law_41 ?_
      refine k_iand E dL_law_43 ?_
      obtain ⟨v, hv, hz⟩ := and31 (xs (3 * t))
      refine k_steq (st' := [.int (nI v)]) (by rw [hz]) ?_
      rcases (show v = 0 ∨ v = 1 ∨ v = 2 ∨ v = 3 ∨ v = 4 ∨ v = 5 ∨ v = 6 ∨ v = 7 ∨ v = 8 ∨ v = 9 ∨ v = 10 ∨ v = 11 ∨ v = 12 ∨ v = 13 ∨ v = 14 ∨ v = 15 ∨ v = 16 ∨ v = 17 ∨ v = 18 ∨ v = 19 ∨ v = 20 ∨ v = 21 ∨ v = 22 ∨ v = 23 ∨ v = 24 ∨ v = 25 ∨ v = 26 ∨ v = 27 ∨ v = 28 ∨ v = 29 ∨ v = 30 ∨ v = 31 by omega) with rfl | rfl | rfl | rfl | rfl | rfl | rfl | rfl | rfl | rfl | rfl | rfl | rfl | rfl | rfl | rfl | rfl | rfl | rfl | rfl | rfl | rfl | rfl | rfl | rfl | rfl | rfl | rfl | rfl | rfl | rfl | rfl
      · refine k_tabIn E dL_law_44 (by decide) (by decide) (off := 136) (by decide) (tgt := 180) (by decide) ?_
        exact c_addFarm E hA hZ hX hbl hbA hL hip hlt lf df dy nf nv nb n rooms tanks bests cows bst vrooms inv vsh itk farm amount mark place number paid blamed ways vis ub rounds thr R hcap KL
      · refine k_tabIn E dL_law_44 (by decide) (by decide) (off := 192) (by decide) (tgt := 236) (by decide) ?_
        exact c_addCow E hA hZ hX hbl hbA hL hip hlt lf df dy nf nv nb n rooms tanks bests cows bst vrooms inv vsh itk farm amount mark place number paid blamed ways vis ub rounds thr R hcap KL
      · refine k_tabIn E dL_law_44 (by decide) (by decide) (off := 260) (by decide) (tgt := 304) (by decide) ?_
        exact c_milkOf E hA hZ hX hbl hbA hL hip hlt lf df dy nf nv nb n rooms tanks bests cows bst vrooms inv vsh itk farm amount mark place number paid blamed ways vis ub rounds thr R hcap KL
      · refine k_tabIn E dL_law_44 (by decide) (by decide) (off := 328) (by decide) (tgt := 372) (by decide) ?_
        exact c_inTank E hA hZ hX hbl hbA hL hip hlt lf df dy nf nv nb n rooms tanks bests cows bst vrooms inv vsh itk farm amount mark place number paid blamed ways vis ub rounds thr R hcap KL
      · refine k_tabIn E dL_law_44 (by decide) (by decide) (off := 384) (by decide) (tgt := 428) (by decide) ?_
        exact c_pass E hA hZ hX hbl hbA hL hip hlt lf df dy nf nv nb n rooms tanks bests cows bst vrooms inv vsh itk farm amount mark place number paid blamed ways vis ub rounds thr R hcap KL
      · refine k_tabIn E dL_law_44 (by decide) (by decide) (off := 440) (by decide) (tgt := 484) (by decide) ?_
        exact c_day E hA hZ hX hbl hbA hL hip hlt lf df dy nf nv nb n rooms tanks bests cows bst vrooms inv vsh itk farm amount mark place number paid blamed ways vis ub rounds thr R hcap KL
      · refine k_tabIn E dL_law_44 (by decide) (by decide) (off := 453) (by decide) (tgt := 497) (by decide) ?_
        exact c_addVat E hA hZ hX hbl hbA hL hip hlt lf df dy nf nv nb n rooms tanks bests cows bst vrooms inv vsh itk farm amount mark place number paid blamed ways vis ub rounds thr R hcap KL
      · refine k_tabIn E dL_law_44 (by decide) (by decide) (off := 509) (by decide) (tgt := 553) (by decide) ?_
        exact c_beginRound E hA hZ hX hbl hbA hL hip hlt lf df dy nf nv nb n rooms tanks bests cows bst vrooms inv vsh itk farm amount mark place number paid blamed ways vis ub rounds thr R hcap KL
      · refine k_tabIn E dL_law_44 (by decide) (by decide) (off := 553) (by decide) (tgt := 597) (by decide) ?_
        exact c_visit E hA hZ hX hbl hbA hL hip hlt lf df dy nf nv nb n rooms tanks bests cows bst vrooms inv vsh itk farm amount mark place number paid blamed ways vis ub rounds thr R hcap KL
      · refine k_tabIn E dL_law_44 (by decide) (by decide) (off := 609) (by decide) (tgt := 653) (by decide) ?_
        exact c_endRound E hA hZ hX hbl hbA hL hip hlt lf df dy nf nv nb n rooms tanks bests cows bst vrooms inv vsh itk farm amount mark place number paid blamed ways vis ub rounds thr R hcap KL
      · refine k_tabIn E dL_law_44 (by decide) (by decide) (off := 665) (by decide) (tgt := 709) (by decide) ?_
        exact c_inTanker E hA hZ hX hbl hbA hL hip hlt lf df dy nf nv nb n rooms tanks bests cows bst vrooms inv vsh itk farm amount mark place number paid blamed ways vis ub rounds thr R hcap KL
      · refine k_tabIn E dL_law_44 (by decide) (by decide) (off := 678) (by decide) (tgt := 722) (by decide) ?_
        exact c_inVat E hA hZ hX hbl hbA hL hip hlt lf df dy nf nv nb n rooms tanks bests cows bst vrooms inv vsh itk farm amount mark place number paid blamed ways vis ub rounds thr R hcap KL
      · refine k_tabIn E dL_law_44 (by decide) (by decide) (off := 734) (by decide) (tgt := 778) (by decide) ?_
        exact c_bestVat E hA hZ hX hbl hbA hL hip hlt lf df dy nf nv nb n rooms tanks bests cows bst vrooms inv vsh itk farm amount mark place number paid blamed ways vis ub rounds thr R hcap KL
      · refine k_tabIn E dL_law_44 (by decide) (by decide) (off := 778) (by decide) (tgt := 822) (by decide) ?_
        exact c_close E hA hZ hX hbl hbA hL hip hlt lf df dy nf nv nb n rooms tanks bests cows bst vrooms inv vsh itk farm amount mark place number paid blamed ways vis ub rounds thr R hcap KL
      · refine k_tabIn E dL_law_44 (by decide) (by decide) (off := 834) (by decide) (tgt := 878) (by decide) ?_
        exact c_samples E hA hZ hX hbl hbA hL hip hlt lf df dy nf nv nb n rooms tanks bests cows bst vrooms inv vsh itk farm amount mark place number paid blamed ways vis ub rounds thr R hcap KL
      · refine k_tabIn E dL_law_44 (by decide) (by decide) (off := 847) (by decide) (tgt := 891) (by decide) ?_
        exact c_farmOf E hA hZ hX hbl hbA hL hip hlt lf df dy nf nv nb n rooms tanks bests cows bst vrooms inv vsh itk farm amount mark place number paid blamed ways vis ub rounds thr R hcap KL
      · refine k_tabIn E dL_law_44 (by decide) (by decide) (off := 903) (by decide) (tgt := 947) (by decide) ?_
        exact c_litres E hA hZ hX hbl hbA hL hip hlt lf df dy nf nv nb n rooms tanks bests cows bst vrooms inv vsh itk farm amount mark place number paid blamed ways vis ub rounds thr R hcap KL
      · refine k_tabIn E dL_law_44 (by decide) (by decide) (off := 959) (by decide) (tgt := 1003) (by decide) ?_
        exact c_grade E hA hZ hX hbl hbA hL hip hlt lf df dy nf nv nb n rooms tanks bests cows bst vrooms inv vsh itk farm amount mark place number paid blamed ways vis ub rounds thr R hcap KL
      · refine k_tabIn E dL_law_44 (by decide) (by decide) (off := 1029) (by decide) (tgt := 1073) (by decide) ?_
        exact c_gradeOf E hA hZ hX hbl hbA hL hip hlt lf df dy nf nv nb n rooms tanks bests cows bst vrooms inv vsh itk farm amount mark place number paid blamed ways vis ub rounds thr R hcap KL
      · refine k_tabIn E dL_law_44 (by decide) (by decide) (off := 1085) (by decide) (tgt := 1129) (by decide) ?_
        exact c_batches E hA hZ hX hbl hbA hL hip hlt lf df dy nf nv nb n rooms tanks bests cows bst vrooms inv vsh itk farm amount mark place number paid blamed ways vis ub rounds thr R hcap KL
      · refine k_tabIn E dL_law_44 (by decide) (by decide) (off := 1098) (by decide) (tgt := 1142) (by decide) ?_
        exact c_stateOf E hA hZ hX hbl hbA hL hip hlt lf df dy nf nv nb n rooms tanks bests cows bst vrooms inv vsh itk farm amount mark place number paid blamed ways vis ub rounds thr R hcap KL
      · refine k_tabIn E dL_law_44 (by decide) (by decide) (off := 1154) (by decide) (tgt := 1198) (by decide) ?_
        exact c_share E hA hZ hX hbl hbA hL hip hlt lf df dy nf nv nb n rooms tanks bests cows bst vrooms inv vsh itk farm amount mark place number paid blamed ways vis ub rounds thr R hcap KL
      · refine k_tabIn E dL_law_44 (by decide) (by decide) (off := 1222) (by decide) (tgt := 1266) (by decide) ?_
        exact c_worth E hA hZ hX hbl hbA hL hip hlt lf df dy nf nv nb n rooms tanks bests cows bst vrooms inv vsh itk farm amount mark place number paid blamed ways vis ub rounds thr R hcap KL
      · refine k_tabIn E dL_law_44 (by decide) (by decide) (off := 1278) (by decide) (tgt := 1322) (by decide) ?_
        exact c_loss E hA hZ hX hbl hbA hL hip hlt lf df dy nf nv nb n rooms tanks bests cows bst vrooms inv vsh itk farm amount mark place number paid blamed ways vis ub rounds thr R hcap KL
      · refine k_tabIn E dL_law_44 (by decide) (by decide) (off := 1334) (by decide) (tgt := 1378) (by decide) ?_
        exact c_pay E hA hZ hX hbl hbA hL hip hlt lf df dy nf nv nb n rooms tanks bests cows bst vrooms inv vsh itk farm amount mark place number paid blamed ways vis ub rounds thr R hcap KL
      · refine k_tabIn E dL_law_44 (by decide) (by decide) (off := 1389) (by decide) (tgt := 1433) (by decide) ?_
        exact c_blame E hA hZ hX hbl hbA hL hip hlt lf df dy nf nv nb n rooms tanks bests cows bst vrooms inv vsh itk farm amount mark place number paid blamed ways vis ub rounds thr R hcap KL
      · refine k_tabIn E dL_law_44 (by decide) (by decide) (off := 1444) (by decide) (tgt := 1488) (by decide) ?_
        exact c_balanceBySamples E hA hZ hX hbl hbA hL hip hlt lf df dy nf nv nb n rooms tanks bests cows bst vrooms inv vsh itk farm amount mark place number paid blamed ways vis ub rounds thr R hcap KL
      · refine k_tabIn E dL_law_44 (by decide) (by decide) (off := 1499) (by decide) (tgt := 1543) (by decide) ?_
        exact c_wayOf E hA hZ hX hbl hbA hL hip hlt lf df dy nf nv nb n rooms tanks bests cows bst vrooms inv vsh itk farm amount mark place number paid blamed ways vis ub rounds thr R hcap KL
      · refine k_tabIn E dL_law_44 (by decide) (by decide) (off := 1555) (by decide) (tgt := 1599) (by decide) ?_
        exact c_spoiltShare E hA hZ hX hbl hbA hL hip hlt lf df dy nf nv nb n rooms tanks bests cows bst vrooms inv vsh itk farm amount mark place number paid blamed ways vis ub rounds thr R hcap KL
      · refine k_tabIn E dL_law_44 (by decide) (by decide) (off := 1621) (by decide) (tgt := 1665) (by decide) ?_
        exact c_meanPay E hA hZ hX hbl hbA hL hip hlt lf df dy nf nv nb n rooms tanks bests cows bst vrooms inv vsh itk farm amount mark place number paid blamed ways vis ub rounds thr R hcap KL
      · refine k_tabOut E dL_law_44 (by decide) (tgt := 1730) (by decide) ?_
        exact k_widen (by omega) (by omega) (KL lf df dy nf nv nb n rooms tanks bests cows bst vrooms inv vsh itk farm amount mark place number paid blamed ways vis ub rounds thr R)
      · refine k_tabOut E dL_law_44 (by decide) (tgt := 1730) (by decide) ?_
        exact k_widen (by omega) (by omega) (KL lf df dy nf nv nb n rooms tanks bests cows bst vrooms inv vsh itk farm amount mark place number paid blamed ways vis ub rounds thr R)
