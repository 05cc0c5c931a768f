section
-- ===== PART A: goes FIRST, ahead of the names: the tables' words, and 'selects' of the private methods out of them =====
/-- a private method of a class that the tables say can be made, by its rows of tables_1 -/
def lw_okq (q : MethodName × Nat) : Prop := (q.1.cls ≠ "java/lang/invoke/MethodHandle" ∧ q.1.cls ≠ "java/lang/invoke/VarHandle") ∧ Cond.instantiable q.1.cls q.2 ∈ tables_1 ∧ Cond.privateMethod q.1 ∈ tables_1 ∧ Cond.instanceMethod q.1 ∈ tables_1
theorem lw_p0 : lw_okq (⟨"MilkRound$Samples", "litresIn", "(CI)I"⟩, 8) := ⟨⟨by decide +kernel, by decide +kernel⟩, List.mem_of_getElem? (i := 54) (by decide +kernel), List.mem_of_getElem? (i := 129) (by decide +kernel), List.mem_of_getElem? (i := 130) (by decide +kernel)⟩
theorem lw_p1 : lw_okq (⟨"MilkRound$Samples", "isIn", "(ICI)Z"⟩, 8) := ⟨⟨by decide +kernel, by decide +kernel⟩, List.mem_of_getElem? (i := 54) (by decide +kernel), List.mem_of_getElem? (i := 133) (by decide +kernel), List.mem_of_getElem? (i := 134) (by decide +kernel)⟩
theorem lw_p2 : lw_okq (⟨"java/lang/Throwable", "fillInStackTrace", "(I)Ljava/lang/Throwable;"⟩, 6) := ⟨⟨by decide +kernel, by decide +kernel⟩, List.mem_of_getElem? (i := 196) (by decide +kernel), List.mem_of_getElem? (i := 194) (by decide +kernel), List.mem_of_getElem? (i := 195) (by decide +kernel)⟩
theorem lw_p3 : lw_okq (⟨"MilkRound$Farms", "add", "(I)I"⟩, 5) := ⟨⟨by decide +kernel, by decide +kernel⟩, List.mem_of_getElem? (i := 26) (by decide +kernel), List.mem_of_getElem? (i := 242) (by decide +kernel), List.mem_of_getElem? (i := 243) (by decide +kernel)⟩
theorem lw_p4 : lw_okq (⟨"MilkRound", "requireFarm", "(I)V"⟩, 9) := ⟨⟨by decide +kernel, by decide +kernel⟩, List.mem_of_getElem? (i := 18) (by decide +kernel), List.mem_of_getElem? (i := 277) (by decide +kernel), List.mem_of_getElem? (i := 278) (by decide +kernel)⟩
theorem lw_p5 : lw_okq (⟨"MilkRound$Farms", "addCowTo", "(II)I"⟩, 5) := ⟨⟨by decide +kernel, by decide +kernel⟩, List.mem_of_getElem? (i := 26) (by decide +kernel), List.mem_of_getElem? (i := 296) (by decide +kernel), List.mem_of_getElem? (i := 297) (by decide +kernel)⟩
theorem lw_p6 : lw_okq (⟨"MilkRound$Farms", "milkOn", "(II)I"⟩, 5) := ⟨⟨by decide +kernel, by decide +kernel⟩, List.mem_of_getElem? (i := 26) (by decide +kernel), List.mem_of_getElem? (i := 308) (by decide +kernel), List.mem_of_getElem? (i := 309) (by decide +kernel)⟩
theorem lw_p7 : lw_okq (⟨"MilkRound$Farms", "milkAll", "(I)I"⟩, 5) := ⟨⟨by decide +kernel, by decide +kernel⟩, List.mem_of_getElem? (i := 26) (by decide +kernel), List.mem_of_getElem? (i := 336) (by decide +kernel), List.mem_of_getElem? (i := 337) (by decide +kernel)⟩
theorem lw_p8 : lw_okq (⟨"MilkRound$Farms", "draw", "(II)I"⟩, 5) := ⟨⟨by decide +kernel, by decide +kernel⟩, List.mem_of_getElem? (i := 26) (by decide +kernel), List.mem_of_getElem? (i := 372) (by decide +kernel), List.mem_of_getElem? (i := 373) (by decide +kernel)⟩
theorem lw_p9 : lw_okq (⟨"MilkRound$Samples", "add", "(II)V"⟩, 8) := ⟨⟨by decide +kernel, by decide +kernel⟩, List.mem_of_getElem? (i := 54) (by decide +kernel), List.mem_of_getElem? (i := 376) (by decide +kernel), List.mem_of_getElem? (i := 377) (by decide +kernel)⟩
theorem lw_p10 : lw_okq (⟨"MilkRound", "requireVat", "(I)V"⟩, 9) := ⟨⟨by decide +kernel, by decide +kernel⟩, List.mem_of_getElem? (i := 18) (by decide +kernel), List.mem_of_getElem? (i := 388) (by decide +kernel), List.mem_of_getElem? (i := 389) (by decide +kernel)⟩
theorem lw_p11 : lw_okq (⟨"MilkRound", "freeRoom", "(I)I"⟩, 9) := ⟨⟨by decide +kernel, by decide +kernel⟩, List.mem_of_getElem? (i := 18) (by decide +kernel), List.mem_of_getElem? (i := 393) (by decide +kernel), List.mem_of_getElem? (i := 394) (by decide +kernel)⟩
theorem lw_p12 : lw_okq (⟨"MilkRound$Samples", "countIn", "(CI)I"⟩, 8) := ⟨⟨by decide +kernel, by decide +kernel⟩, List.mem_of_getElem? (i := 54) (by decide +kernel), List.mem_of_getElem? (i := 417) (by decide +kernel), List.mem_of_getElem? (i := 418) (by decide +kernel)⟩
theorem lw_p13 : lw_okq (⟨"MilkRound$Samples", "move", "(CICI)V"⟩, 8) := ⟨⟨by decide +kernel, by decide +kernel⟩, List.mem_of_getElem? (i := 54) (by decide +kernel), List.mem_of_getElem? (i := 422) (by decide +kernel), List.mem_of_getElem? (i := 423) (by decide +kernel)⟩
theorem lw_p14 : lw_okq (⟨"MilkRound$Samples", "settle", "(I)V"⟩, 8) := ⟨⟨by decide +kernel, by decide +kernel⟩, List.mem_of_getElem? (i := 54) (by decide +kernel), List.mem_of_getElem? (i := 463) (by decide +kernel), List.mem_of_getElem? (i := 464) (by decide +kernel)⟩
theorem lw_p15 : lw_okq (⟨"MilkRound$Samples", "isGraded", "(I)Z"⟩, 8) := ⟨⟨by decide +kernel, by decide +kernel⟩, List.mem_of_getElem? (i := 54) (by decide +kernel), List.mem_of_getElem? (i := 467) (by decide +kernel), List.mem_of_getElem? (i := 468) (by decide +kernel)⟩
def lw_privs_1 : List (MethodName × Nat) := [(⟨"MilkRound$Samples", "litresIn", "(CI)I"⟩, 8), (⟨"MilkRound$Samples", "isIn", "(ICI)Z"⟩, 8), (⟨"java/lang/Throwable", "fillInStackTrace", "(I)Ljava/lang/Throwable;"⟩, 6), (⟨"MilkRound$Farms", "add", "(I)I"⟩, 5), (⟨"MilkRound", "requireFarm", "(I)V"⟩, 9), (⟨"MilkRound$Farms", "addCowTo", "(II)I"⟩, 5), (⟨"MilkRound$Farms", "milkOn", "(II)I"⟩, 5), (⟨"MilkRound$Farms", "milkAll", "(I)I"⟩, 5), (⟨"MilkRound$Farms", "draw", "(II)I"⟩, 5), (⟨"MilkRound$Samples", "add", "(II)V"⟩, 8), (⟨"MilkRound", "requireVat", "(I)V"⟩, 9), (⟨"MilkRound", "freeRoom", "(I)I"⟩, 9), (⟨"MilkRound$Samples", "countIn", "(CI)I"⟩, 8), (⟨"MilkRound$Samples", "move", "(CICI)V"⟩, 8), (⟨"MilkRound$Samples", "settle", "(I)V"⟩, 8), (⟨"MilkRound$Samples", "isGraded", "(I)Z"⟩, 8)]
theorem lw_r1 : ∀ q ∈ lw_privs_1, lw_okq q := List.forall_mem_cons.mpr ⟨lw_p0, List.forall_mem_cons.mpr ⟨lw_p1, List.forall_mem_cons.mpr ⟨lw_p2, List.forall_mem_cons.mpr ⟨lw_p3, List.forall_mem_cons.mpr ⟨lw_p4, List.forall_mem_cons.mpr ⟨lw_p5, List.forall_mem_cons.mpr ⟨lw_p6, List.forall_mem_cons.mpr ⟨lw_p7, List.forall_mem_cons.mpr ⟨lw_p8, List.forall_mem_cons.mpr ⟨lw_p9, List.forall_mem_cons.mpr ⟨lw_p10, List.forall_mem_cons.mpr ⟨lw_p11, List.forall_mem_cons.mpr ⟨lw_p12, List.forall_mem_cons.mpr ⟨lw_p13, List.forall_mem_cons.mpr ⟨lw_p14, List.forall_mem_cons.mpr ⟨lw_p15, fun _ h => absurd h List.not_mem_nil⟩⟩⟩⟩⟩⟩⟩⟩⟩⟩⟩⟩⟩⟩⟩⟩
theorem lw_p16 : lw_okq (⟨"MilkRound$Samples", "spoiltLitres", "(I)I"⟩, 8) := ⟨⟨by decide +kernel, by decide +kernel⟩, List.mem_of_getElem? (i := 54) (by decide +kernel), List.mem_of_getElem? (i := 471) (by decide +kernel), List.mem_of_getElem? (i := 472) (by decide +kernel)⟩
theorem lw_p17 : lw_okq (⟨"MilkRound$Samples", "isSpoiltIn", "(II)Z"⟩, 8) := ⟨⟨by decide +kernel, by decide +kernel⟩, List.mem_of_getElem? (i := 54) (by decide +kernel), List.mem_of_getElem? (i := 475) (by decide +kernel), List.mem_of_getElem? (i := 476) (by decide +kernel)⟩
theorem lw_p18 : lw_okq (⟨"MilkRound$Samples", "settleBlame", "(II)V"⟩, 8) := ⟨⟨by decide +kernel, by decide +kernel⟩, List.mem_of_getElem? (i := 54) (by decide +kernel), List.mem_of_getElem? (i := 479) (by decide +kernel), List.mem_of_getElem? (i := 480) (by decide +kernel)⟩
theorem lw_p19 : lw_okq (⟨"MilkRound$Samples", "lossOf", "(I)I"⟩, 8) := ⟨⟨by decide +kernel, by decide +kernel⟩, List.mem_of_getElem? (i := 54) (by decide +kernel), List.mem_of_getElem? (i := 483) (by decide +kernel), List.mem_of_getElem? (i := 484) (by decide +kernel)⟩
theorem lw_p20 : lw_okq (⟨"MilkRound$Samples", "isSpoilt", "(I)Z"⟩, 8) := ⟨⟨by decide +kernel, by decide +kernel⟩, List.mem_of_getElem? (i := 54) (by decide +kernel), List.mem_of_getElem? (i := 487) (by decide +kernel), List.mem_of_getElem? (i := 488) (by decide +kernel)⟩
theorem lw_p21 : lw_okq (⟨"MilkRound$Samples", "valueOf", "(I)I"⟩, 8) := ⟨⟨by decide +kernel, by decide +kernel⟩, List.mem_of_getElem? (i := 54) (by decide +kernel), List.mem_of_getElem? (i := 491) (by decide +kernel), List.mem_of_getElem? (i := 492) (by decide +kernel)⟩
theorem lw_p22 : lw_okq (⟨"MilkRound$Samples", "valueOfSample", "(I)I"⟩, 8) := ⟨⟨by decide +kernel, by decide +kernel⟩, List.mem_of_getElem? (i := 54) (by decide +kernel), List.mem_of_getElem? (i := 495) (by decide +kernel), List.mem_of_getElem? (i := 496) (by decide +kernel)⟩
theorem lw_p23 : lw_okq (⟨"MilkRound$Samples", "settlePay", "(I)V"⟩, 8) := ⟨⟨by decide +kernel, by decide +kernel⟩, List.mem_of_getElem? (i := 54) (by decide +kernel), List.mem_of_getElem? (i := 502) (by decide +kernel), List.mem_of_getElem? (i := 503) (by decide +kernel)⟩
theorem lw_p24 : lw_okq (⟨"MilkRound", "requireSample", "(I)V"⟩, 9) := ⟨⟨by decide +kernel, by decide +kernel⟩, List.mem_of_getElem? (i := 18) (by decide +kernel), List.mem_of_getElem? (i := 513) (by decide +kernel), List.mem_of_getElem? (i := 514) (by decide +kernel)⟩
theorem lw_p25 : lw_okq (⟨"MilkRound$Samples", "ungraded", "()I"⟩, 8) := ⟨⟨by decide +kernel, by decide +kernel⟩, List.mem_of_getElem? (i := 54) (by decide +kernel), List.mem_of_getElem? (i := 534) (by decide +kernel), List.mem_of_getElem? (i := 535) (by decide +kernel)⟩
theorem lw_p26 : lw_okq (⟨"MilkRound", "requireBatch", "(I)V"⟩, 9) := ⟨⟨by decide +kernel, by decide +kernel⟩, List.mem_of_getElem? (i := 18) (by decide +kernel), List.mem_of_getElem? (i := 552) (by decide +kernel), List.mem_of_getElem? (i := 553) (by decide +kernel)⟩
theorem lw_p27 : lw_okq (⟨"MilkRound$Samples", "shareAt", "(II)I"⟩, 8) := ⟨⟨by decide +kernel, by decide +kernel⟩, List.mem_of_getElem? (i := 54) (by decide +kernel), List.mem_of_getElem? (i := 566) (by decide +kernel), List.mem_of_getElem? (i := 567) (by decide +kernel)⟩
theorem lw_p28 : lw_okq (⟨"MilkRound", "requireGradedBatch", "(I)V"⟩, 9) := ⟨⟨by decide +kernel, by decide +kernel⟩, List.mem_of_getElem? (i := 18) (by decide +kernel), List.mem_of_getElem? (i := 578) (by decide +kernel), List.mem_of_getElem? (i := 579) (by decide +kernel)⟩
theorem lw_p29 : lw_okq (⟨"MilkRound$Samples", "payOfAll", "(I)I"⟩, 8) := ⟨⟨by decide +kernel, by decide +kernel⟩, List.mem_of_getElem? (i := 54) (by decide +kernel), List.mem_of_getElem? (i := 583) (by decide +kernel), List.mem_of_getElem? (i := 584) (by decide +kernel)⟩
theorem lw_p30 : lw_okq (⟨"MilkRound$Samples", "paidTo", "(II)I"⟩, 8) := ⟨⟨by decide +kernel, by decide +kernel⟩, List.mem_of_getElem? (i := 54) (by decide +kernel), List.mem_of_getElem? (i := 602) (by decide +kernel), List.mem_of_getElem? (i := 603) (by decide +kernel)⟩
theorem lw_p31 : lw_okq (⟨"MilkRound$Samples", "blamedOn", "(II)I"⟩, 8) := ⟨⟨by decide +kernel, by decide +kernel⟩, List.mem_of_getElem? (i := 54) (by decide +kernel), List.mem_of_getElem? (i := 613) (by decide +kernel), List.mem_of_getElem? (i := 614) (by decide +kernel)⟩
def lw_privs_2 : List (MethodName × Nat) := [(⟨"MilkRound$Samples", "spoiltLitres", "(I)I"⟩, 8), (⟨"MilkRound$Samples", "isSpoiltIn", "(II)Z"⟩, 8), (⟨"MilkRound$Samples", "settleBlame", "(II)V"⟩, 8), (⟨"MilkRound$Samples", "lossOf", "(I)I"⟩, 8), (⟨"MilkRound$Samples", "isSpoilt", "(I)Z"⟩, 8), (⟨"MilkRound$Samples", "valueOf", "(I)I"⟩, 8), (⟨"MilkRound$Samples", "valueOfSample", "(I)I"⟩, 8), (⟨"MilkRound$Samples", "settlePay", "(I)V"⟩, 8), (⟨"MilkRound", "requireSample", "(I)V"⟩, 9), (⟨"MilkRound$Samples", "ungraded", "()I"⟩, 8), (⟨"MilkRound", "requireBatch", "(I)V"⟩, 9), (⟨"MilkRound$Samples", "shareAt", "(II)I"⟩, 8), (⟨"MilkRound", "requireGradedBatch", "(I)V"⟩, 9), (⟨"MilkRound$Samples", "payOfAll", "(I)I"⟩, 8), (⟨"MilkRound$Samples", "paidTo", "(II)I"⟩, 8), (⟨"MilkRound$Samples", "blamedOn", "(II)I"⟩, 8)]
theorem lw_r2 : ∀ q ∈ lw_privs_2, lw_okq q := List.forall_mem_cons.mpr ⟨lw_p16, List.forall_mem_cons.mpr ⟨lw_p17, List.forall_mem_cons.mpr ⟨lw_p18, List.forall_mem_cons.mpr ⟨lw_p19, List.forall_mem_cons.mpr ⟨lw_p20, List.forall_mem_cons.mpr ⟨lw_p21, List.forall_mem_cons.mpr ⟨lw_p22, List.forall_mem_cons.mpr ⟨lw_p23, List.forall_mem_cons.mpr ⟨lw_p24, List.forall_mem_cons.mpr ⟨lw_p25, List.forall_mem_cons.mpr ⟨lw_p26, List.forall_mem_cons.mpr ⟨lw_p27, List.forall_mem_cons.mpr ⟨lw_p28, List.forall_mem_cons.mpr ⟨lw_p29, List.forall_mem_cons.mpr ⟨lw_p30, List.forall_mem_cons.mpr ⟨lw_p31, fun _ h => absurd h List.not_mem_nil⟩⟩⟩⟩⟩⟩⟩⟩⟩⟩⟩⟩⟩⟩⟩⟩
theorem lw_p32 : lw_okq (⟨"MilkRound$Samples", "balanceOf", "(I)J"⟩, 8) := ⟨⟨by decide +kernel, by decide +kernel⟩, List.mem_of_getElem? (i := 54) (by decide +kernel), List.mem_of_getElem? (i := 624) (by decide +kernel), List.mem_of_getElem? (i := 625) (by decide +kernel)⟩
theorem lw_p33 : lw_okq (⟨"MilkRound$Samples", "allLitres", "()I"⟩, 8) := ⟨⟨by decide +kernel, by decide +kernel⟩, List.mem_of_getElem? (i := 54) (by decide +kernel), List.mem_of_getElem? (i := 656) (by decide +kernel), List.mem_of_getElem? (i := 657) (by decide +kernel)⟩
theorem lw_p34 : lw_okq (⟨"MilkRoundModel", "isFarm", "(I)Z"⟩, 21) := ⟨⟨by decide +kernel, by decide +kernel⟩, List.mem_of_getElem? (i := 671) (by decide +kernel), List.mem_of_getElem? (i := 758) (by decide +kernel), List.mem_of_getElem? (i := 759) (by decide +kernel)⟩
theorem lw_p35 : lw_okq (⟨"MilkRoundModel", "isVat", "(I)Z"⟩, 21) := ⟨⟨by decide +kernel, by decide +kernel⟩, List.mem_of_getElem? (i := 671) (by decide +kernel), List.mem_of_getElem? (i := 802) (by decide +kernel), List.mem_of_getElem? (i := 803) (by decide +kernel)⟩
theorem lw_p36 : lw_okq (⟨"MilkRoundModel", "onWay", "(I)I"⟩, 21) := ⟨⟨by decide +kernel, by decide +kernel⟩, List.mem_of_getElem? (i := 671) (by decide +kernel), List.mem_of_getElem? (i := 806) (by decide +kernel), List.mem_of_getElem? (i := 807) (by decide +kernel)⟩
theorem lw_p37 : lw_okq (⟨"MilkRoundModel", "isSample", "(I)Z"⟩, 21) := ⟨⟨by decide +kernel, by decide +kernel⟩, List.mem_of_getElem? (i := 671) (by decide +kernel), List.mem_of_getElem? (i := 834) (by decide +kernel), List.mem_of_getElem? (i := 835) (by decide +kernel)⟩
theorem lw_p38 : lw_okq (⟨"MilkRoundModel", "isBatch", "(I)Z"⟩, 21) := ⟨⟨by decide +kernel, by decide +kernel⟩, List.mem_of_getElem? (i := 671) (by decide +kernel), List.mem_of_getElem? (i := 858) (by decide +kernel), List.mem_of_getElem? (i := 859) (by decide +kernel)⟩
theorem lw_p39 : lw_okq (⟨"MilkRoundModel", "has", "(IC)Z"⟩, 21) := ⟨⟨by decide +kernel, by decide +kernel⟩, List.mem_of_getElem? (i := 671) (by decide +kernel), List.mem_of_getElem? (i := 862) (by decide +kernel), List.mem_of_getElem? (i := 863) (by decide +kernel)⟩
theorem lw_p40 : lw_okq (⟨"MilkRoundModel", "isGraded", "(I)Z"⟩, 21) := ⟨⟨by decide +kernel, by decide +kernel⟩, List.mem_of_getElem? (i := 671) (by decide +kernel), List.mem_of_getElem? (i := 874) (by decide +kernel), List.mem_of_getElem? (i := 875) (by decide +kernel)⟩
theorem lw_p41 : lw_okq (⟨"MilkRoundModel", "payOf", "(I)I"⟩, 21) := ⟨⟨by decide +kernel, by decide +kernel⟩, List.mem_of_getElem? (i := 671) (by decide +kernel), List.mem_of_getElem? (i := 878) (by decide +kernel), List.mem_of_getElem? (i := 879) (by decide +kernel)⟩
theorem lw_p42 : lw_okq (⟨"MilkRoundModel", "worthOf", "(I)I"⟩, 21) := ⟨⟨by decide +kernel, by decide +kernel⟩, List.mem_of_getElem? (i := 671) (by decide +kernel), List.mem_of_getElem? (i := 882) (by decide +kernel), List.mem_of_getElem? (i := 883) (by decide +kernel)⟩
theorem lw_p43 : lw_okq (⟨"MilkRoundModel", "lossOf", "(I)I"⟩, 21) := ⟨⟨by decide +kernel, by decide +kernel⟩, List.mem_of_getElem? (i := 671) (by decide +kernel), List.mem_of_getElem? (i := 890) (by decide +kernel), List.mem_of_getElem? (i := 891) (by decide +kernel)⟩
theorem lw_p44 : lw_okq (⟨"MilkRoundModel", "counts", "(II)Z"⟩, 21) := ⟨⟨by decide +kernel, by decide +kernel⟩, List.mem_of_getElem? (i := 671) (by decide +kernel), List.mem_of_getElem? (i := 899) (by decide +kernel), List.mem_of_getElem? (i := 900) (by decide +kernel)⟩
theorem lw_p45 : lw_okq (⟨"MilkRoundModel", "blameOf", "(I)I"⟩, 21) := ⟨⟨by decide +kernel, by decide +kernel⟩, List.mem_of_getElem? (i := 671) (by decide +kernel), List.mem_of_getElem? (i := 907) (by decide +kernel), List.mem_of_getElem? (i := 908) (by decide +kernel)⟩
def lw_privs_3 : List (MethodName × Nat) := [(⟨"MilkRound$Samples", "balanceOf", "(I)J"⟩, 8), (⟨"MilkRound$Samples", "allLitres", "()I"⟩, 8), (⟨"MilkRoundModel", "isFarm", "(I)Z"⟩, 21), (⟨"MilkRoundModel", "isVat", "(I)Z"⟩, 21), (⟨"MilkRoundModel", "onWay", "(I)I"⟩, 21), (⟨"MilkRoundModel", "isSample", "(I)Z"⟩, 21), (⟨"MilkRoundModel", "isBatch", "(I)Z"⟩, 21), (⟨"MilkRoundModel", "has", "(IC)Z"⟩, 21), (⟨"MilkRoundModel", "isGraded", "(I)Z"⟩, 21), (⟨"MilkRoundModel", "payOf", "(I)I"⟩, 21), (⟨"MilkRoundModel", "worthOf", "(I)I"⟩, 21), (⟨"MilkRoundModel", "lossOf", "(I)I"⟩, 21), (⟨"MilkRoundModel", "counts", "(II)Z"⟩, 21), (⟨"MilkRoundModel", "blameOf", "(I)I"⟩, 21)]
theorem lw_r3 : ∀ q ∈ lw_privs_3, lw_okq q := List.forall_mem_cons.mpr ⟨lw_p32, List.forall_mem_cons.mpr ⟨lw_p33, List.forall_mem_cons.mpr ⟨lw_p34, List.forall_mem_cons.mpr ⟨lw_p35, List.forall_mem_cons.mpr ⟨lw_p36, List.forall_mem_cons.mpr ⟨lw_p37, List.forall_mem_cons.mpr ⟨lw_p38, List.forall_mem_cons.mpr ⟨lw_p39, List.forall_mem_cons.mpr ⟨lw_p40, List.forall_mem_cons.mpr ⟨lw_p41, List.forall_mem_cons.mpr ⟨lw_p42, List.forall_mem_cons.mpr ⟨lw_p43, List.forall_mem_cons.mpr ⟨lw_p44, List.forall_mem_cons.mpr ⟨lw_p45, fun _ h => absurd h List.not_mem_nil⟩⟩⟩⟩⟩⟩⟩⟩⟩⟩⟩⟩⟩⟩
def lw_privs : List (MethodName × Nat) := lw_privs_1 ++ (lw_privs_2 ++ (lw_privs_3))
def lw_tbl : List Cond := k2_sels lw_privs ++ tables_1
theorem lw_privs_ok : ∀ q ∈ lw_privs, lw_okq q := by
  show ∀ q ∈ lw_privs_1 ++ (lw_privs_2 ++ (lw_privs_3)), lw_okq q
  exact List.forall_mem_append.mpr ⟨lw_r1, List.forall_mem_append.mpr ⟨lw_r2, lw_r3⟩⟩
/-- the streams that the claim lets the run draw from -/
abbrev lw_cs : List Choice := [Jvm.Choice.named "NaN.bits"]
theorem lw_bits : nanBits ∈ lw_cs := by first | decide | exact List.mem_cons_self | simp [lw_cs, nanBits]
/-! ===== BEGIN words of one list among another's, by their places ===== -/
theorem goodIn_r {big : List Cond} (ws : List Cond) (ps : List Nat) (hp : ws = ps.filterMap (fun i => big[i]?)) (h : ws.all goodWord = true) : GoodIn big ws := by
  intro w hw
  have h1 := List.all_eq_true.mp h w hw
  rw [hp] at hw
  obtain ⟨i, -, hi⟩ := List.mem_filterMap.mp hw
  have hm : w ∈ big := by first | exact List.mem_of_getElem? hi | exact List.getElem?_mem hi
  exact ⟨hm, good_of_word h1⟩
theorem goodIn_app {big a b : List Cond} (ha : GoodIn big a) (hb : GoodIn big b) : GoodIn big (a ++ b) := fun w h => (List.mem_append.mp h).elim (ha w) (hb w)
theorem goodIn_ca {big a b : List Cond} {c : Cond} (ha : GoodIn big (c :: a)) (hb : GoodIn big b) : GoodIn big (c :: (a ++ b)) := fun w h => (List.mem_cons.mp h).elim (fun e => ha w (List.mem_cons.mpr (Or.inl e))) (fun h => (List.mem_append.mp h).elim (fun h => ha w (List.mem_cons.mpr (Or.inr h))) (hb w))
theorem goodIn_sub {big ws : List Cond} (hm : ∀ w ∈ ws, w ∈ big) (h : ws.all goodWord = true) : GoodIn big ws := fun w hw => ⟨hm w hw, good_of_word (List.all_eq_true.mp h w hw)⟩
/-! ===== END ===== -/

def va_AOA (t : FieldType) (U : State) : Prop := (Cond.arrayOver (.array t)).before #[] U = true
theorem va_AOA.of {t : FieldType} {A : Array Value} {U : State} (h : (Cond.arrayOver (.array t)).before A U = true) : va_AOA t U := h
theorem va_AOA.use {t : FieldType} {A : Array Value} {U : State} (h : va_AOA t U) : (Cond.arrayOver (.array t)).before A U = true := h
/-! ===== BEGIN new T[n][m]: the outer array a place, the inner ones among the pooled ===== -/
/-- f, but v at every address of l -/
def vr_up {α : Type} (f : Nat → α) (l : List Nat) (v : α) : Nat → α := fun a => if a ∈ l then v else f a
theorem vr_up_in {α : Type} {f : Nat → α} {l : List Nat} {v : α} {a : Nat} (h : a ∈ l) : vr_up f l v a = v := if_pos h
theorem vr_up_ne {α : Type} {f : Nat → α} {l : List Nat} {v : α} {a : Nat} (h : a ∉ l) : vr_up f l v a = f a := if_neg h
theorem vr_rows {L l : List Nat} {f : Nat → va_E} {e : va_E} (h : ∀ a, a ∈ l → a ∉ L) : va_pl L f ++ l.map (fun a => (a, e)) = va_pl (L ++ l) (vr_up f l e) := by
  unfold va_pl
  rw [List.map_append]
  congr 1
  · apply List.map_congr_left
    intro a ha
    rw [vr_up_ne (fun q => h a q ha)]
  · apply List.map_congr_left
    intro a ha
    rw [vr_up_in ha]
theorem vr_lay {X rows : va_W} {x : Nat × va_E} {pl : va_W} {D : va_G} {cl : List vw_C} {H : Heap} (hP : va_P D cl (((X ++ pl) ++ [x]) ++ rows) H) : va_P D cl ((X ++ [x]) ++ (pl ++ rows)) H := by
  rw [List.append_assoc (X ++ pl)] at hP
  have h := va_P.swap hP
  rw [← List.append_assoc X] at h
  have h2 := va_P.swap h
  rw [List.append_assoc (X ++ [x])] at h2
  exact h2
theorem vr_layD {X rows : va_W} {x : Nat × va_E} {pl : va_W} {A : Nat → Prop} (hD : va_D A (((X ++ pl) ++ [x]) ++ rows)) : va_D A ((X ++ [x]) ++ (pl ++ rows)) := by
  rw [List.append_assoc (X ++ pl)] at hD
  have h := va_D.swap hD
  rw [← List.append_assoc X] at h
  have h2 := va_D.swap h
  rw [List.append_assoc (X ++ [x])] at h2
  exact h2
theorem vr_outer (c : ClassId) (N h0 : Nat) : ∀ i : Nat, Jvm.Free.Multi.outerC c N h0 i = arrV c N (fun j => va_rf (if j < i then some (h0 + 1 + j) else none))
  | 0 => by
    show ({ cls := c, slots := Array.replicate N .null, vm := .none } : Cell) = _
    rw [arrV_new]
    refine congrArg (arrV c N) (funext fun j => ?_)
    simp [va_rf]
  | i + 1 => by
    show (Jvm.Free.Multi.outerC c N h0 i).setSlot i (.ref (h0 + 1 + i)) = _
    rw [vr_outer c N h0 i, arrV_store]
    refine congrArg (arrV c N) (funext fun j => ?_)
    by_cases e : j = i
    · subst e
      simp [updV, va_rf]
    · by_cases h : j < i
      · simp [updV, e, h, Nat.lt_succ_of_lt h]
      · simp [updV, e, h, show ¬ j < i + 1 by omega]
section VGM
variable {p : Program} {l : Launch} {e : Env} {R : Room} {s : State} {m : MethodId} {args : Array Value} {below : List Frame} {meth : Method} {c : Code} {H : Heap} {locs : List Loc} {cells slots : Nat} {Q : State → Prop}
variable {cc : ByteArray} {pc : Nat} {ls : Array Slot} {rest : List Value} {D : va_G} {cl : List vw_C} {A : Nat → Prop} {a : Nat} {tys : List (ClassId × FieldType)} {ws : va_W} {H0 : Heap}
theorem va_mna {X : va_W} {L : List Nat} {f : Nat → va_E} {cc : ByteArray} (hexec : p.tables.exec = Jvm.exec) (hb : c.code = cc) {own : String} {index : Nat} {ty : FieldType} {cy : ClassId} (hown : s.vm.findClass own = some m.cls) (hclink : (Cond.classLink own index ("[" ++ (FieldType.array ty).toString)).before args s = true) (hover : va_AOA ty s) (harr : (Cond.arrayClass ty).before args s = true) (hcy : s.vm.findClass (FieldType.array ty).toString = some cy)
    (hK : va_K D cl tys s) (hP : va_P D cl (X ++ va_pl L f) H) (hD : va_D A (X ++ va_pl L f)) (hS : va_S A H0 H locs) (hA : ∀ q, H0.size ≤ q → A q) {n k : Int32} {N' K' : Nat} {z : vp_A} (hn : ¬ n < 0) (hk : ¬ k < 0) (hN : n.toNatClampNeg = N') (hM : k.toNatClampNeg = K')
    (hb1 : N' * 4 ≤ 536870912) (hb2 : K' * componentBytes ty ≤ 536870912) (hb3 : K' ≤ 536870912) (hdf : fits ty (defaultValue ty) = true) (hdd : (defaultValue ty).isDefault = true) (hcells : cells + (1 + N') ≤ R.cells) (hslots : slots + (N' + N' * K') ≤ R.slots) (hz : ∀ c : ClassId, Jvm.Free.Multi.innerC c K' (defaultValue ty) = vp_cell c z) (hdg : decode cc pc = .ok (.multianewarray index 2, 4))
    (kk : ∀ (q : Nat) (r : Nat → Nat) (cA : ClassId) (H1 : Heap), (∀ i j : Nat, i < N' → j < N' → r i = r j → i = j) → (∀ i : Nat, i < N' → r i ∉ L) → va_K D cl (tys ++ [(cA, .array ty)]) s →
      va_P D cl ((X ++ [(q, .inl (cA, N', .inr (.inr (.inr (.inr (fun i => if i < N' then some (r i) else none))))))]) ++ va_pl (L ++ (List.range N').map r) (vr_up f ((List.range N').map r) (.inl (cy, z)))) H1 → va_D A ((X ++ [(q, .inl (cA, N', .inr (.inr (.inr (.inr (fun i => if i < N' then some (r i) else none))))))]) ++ va_pl (L ++ (List.range N').map r) (vr_up f ((List.range N').map r) (.inl (cy, z)))) → va_S A H0 H1 locs →
      W p l e R s m args below meth c H1 locs (cells + 1 + N') (slots + N' + N' * K') Q (F0 m (pc + 4) ls (.ref q :: rest))) : W p l e R s m args below meth c H locs cells slots Q (F0 m pc ls (.int k :: .int n :: rest)) := by
  subst hN
  subst hM
  intro T hT Xs
  obtain ⟨vm₁, cA, comp, -, fA, fC, hO, -, X', step⟩ := Xs.multianewarray2F hexec hown hclink (va_AOA.use hover) harr (g := F0 m pc ls (.int k :: .int n :: rest)) rfl (by rw [hb]; exact hdg) rfl hn hk hb1 hb2 hb3 hdf hdd hcells hslots
  have ec : some cy = some comp := hcy.symm.trans fC
  cases ec
  generalize hF : Jvm.Free.Multi.fill (T.setVm vm₁) cA cy n.toNatClampNeg k.toNatClampNeg (defaultValue ty) n.toNatClampNeg = F at X' step
  have hTh : (T.setVm vm₁).heap = H := hT
  obtain ⟨f1, f2, -, -⟩ := Jvm.Free.Multi.fill_facts (T.setVm vm₁) cA cy n.toNatClampNeg k.toNatClampNeg (defaultValue ty) n.toNatClampNeg
  rw [hF, hTh] at f1 f2
  have hold : ∀ x : Nat, x < H.size → F.heap[x]? = H[x]? := fun x hx => by
    have := Jvm.Free.Multi.fill_old (T.setVm vm₁) cA cy n.toNatClampNeg k.toNatClampNeg (defaultValue ty) (a := x) (by rw [hTh]; exact hx) n.toNatClampNeg
    rw [hF, hTh] at this
    exact this
  have hrow : ∀ j : Nat, j < n.toNatClampNeg → F.heap[H.size + 1 + j]? = some (vp_cell cy z) := fun j hj => by
    have := Jvm.Free.Multi.fill_inner (T.setVm vm₁) cA cy n.toNatClampNeg k.toNatClampNeg (defaultValue ty) n.toNatClampNeg j hj
    rw [hF, hTh, hz] at this
    exact this
  have hout : Jvm.Free.Multi.outerC cA n.toNatClampNeg H.size n.toNatClampNeg = vp_cell cA (n.toNatClampNeg, .inr (.inr (.inr (.inr (fun i => if i < n.toNatClampNeg then some (H.size + 1 + i) else none))))) := by
    rw [vp_cell_q]
    exact vr_outer cA n.toNatClampNeg H.size n.toNatClampNeg
  rw [hout] at f2
  have hlt : ∀ a, a ∈ L → a < H.size := fun a ha => by
    obtain ⟨k9, hk9⟩ := va_pl_get (X := X) (f := f) ha
    exact (hP k9 _ hk9).lt
  have hnl : ∀ i : Nat, i < n.toNatClampNeg → H.size + 1 + i ∉ L := fun i _ h => by
    have := hlt _ h
    omega
  have hnm : ∀ a, a ∈ (List.range n.toNatClampNeg).map (fun i => H.size + 1 + i) → a ∉ L := fun a ha h => by
    obtain ⟨i, -, rfl⟩ := List.mem_map.mp ha
    have := hlt _ h
    omega
  have hP0 : va_P D cl (X ++ va_pl L f) F.heap := hP.kept (fun k9 x hx => hold x.1 ((hP k9 x hx).lt))
  have hP1 : va_P D cl ((X ++ va_pl L f) ++ [(H.size, .inl (cA, n.toNatClampNeg, .inr (.inr (.inr (.inr (fun i => if i < n.toNatClampNeg then some (H.size + 1 + i) else none))))))]) F.heap := hP0.app (fun k9 x hx => by
    have h0 : k9 < 1 := (List.getElem?_eq_some_iff.mp hx).1
    rw [show k9 = 0 by omega] at hx
    cases hx
    exact f2)
  have hP2 : va_P D cl (((X ++ va_pl L f) ++ [(H.size, .inl (cA, n.toNatClampNeg, .inr (.inr (.inr (.inr (fun i => if i < n.toNatClampNeg then some (H.size + 1 + i) else none))))))]) ++ ((List.range n.toNatClampNeg).map (fun i => H.size + 1 + i)).map (fun a => (a, .inl (cy, z)))) F.heap := hP1.app (fun k9 x hx => by
    obtain ⟨a, ha, rfl⟩ := List.mem_map.mp (List.mem_of_getElem? hx)
    obtain ⟨i, hi, rfl⟩ := List.mem_map.mp ha
    exact hrow i (List.mem_range.mp hi))
  have hD2 : va_D A (((X ++ va_pl L f) ++ [(H.size, .inl (cA, n.toNatClampNeg, .inr (.inr (.inr (.inr (fun i => if i < n.toNatClampNeg then some (H.size + 1 + i) else none))))))]) ++ ((List.range n.toNatClampNeg).map (fun i => H.size + 1 + i)).map (fun a => (a, .inl (cy, z)))) := by
    have hD1 := hD.push (e := .inl (cA, n.toNatClampNeg, .inr (.inr (.inr (.inr (fun i => if i < n.toNatClampNeg then some (H.size + 1 + i) else none)))))) hP rfl (hA _ hS.1)
    generalize hW1 : (X ++ va_pl L f) ++ [(H.size, .inl (cA, n.toNatClampNeg, .inr (.inr (.inr (.inr (fun i => if i < n.toNatClampNeg then some (H.size + 1 + i) else none))))))] = W1 at hD1 hP1 ⊢
    have hle : ∀ (k9 : Nat) (x : Nat × va_E), W1[k9]? = some x → x.1 ≤ H.size := fun k9 x hx => by
      rw [← hW1] at hx
      by_cases hl : k9 < (X ++ va_pl L f).length
      · rw [List.getElem?_append_left hl] at hx
        exact Nat.le_of_lt ((hP k9 x hx).lt)
      · rw [List.getElem?_append_right (by omega)] at hx
        have h0 : k9 - (X ++ va_pl L f).length < 1 := (List.getElem?_eq_some_iff.mp hx).1
        rw [show k9 - (X ++ va_pl L f).length = 0 by omega] at hx
        cases hx
        exact Nat.le_refl _
    have hr : ∀ (k9 : Nat) (x : Nat × va_E), (((List.range n.toNatClampNeg).map (fun i => H.size + 1 + i)).map (fun a => ((a, .inl (cy, z)) : Nat × va_E)))[k9]? = some x → x.1 = H.size + 1 + k9 := fun k9 x hx => by
      rw [List.getElem?_map, List.getElem?_map] at hx
      by_cases h9 : k9 < n.toNatClampNeg
      · rw [List.getElem?_range h9] at hx
        cases hx
        rfl
      · have hn0 : (List.range n.toNatClampNeg)[k9]? = none := List.getElem?_eq_none (by rw [List.length_range]; omega)
        rw [hn0] at hx
        cases hx
    refine ⟨fun i j x y hi hj hxy => ?_, fun k9 x hx => ?_⟩
    · by_cases h1 : i < W1.length <;> by_cases h2 : j < W1.length
      · rw [List.getElem?_append_left h1] at hi
        rw [List.getElem?_append_left h2] at hj
        exact hD1.1 i j x y hi hj hxy
      · rw [List.getElem?_append_left h1] at hi
        rw [List.getElem?_append_right (by omega)] at hj
        have := hle _ _ hi
        have := hr _ _ hj
        omega
      · rw [List.getElem?_append_right (by omega)] at hi
        rw [List.getElem?_append_left h2] at hj
        have := hle _ _ hj
        have := hr _ _ hi
        omega
      · rw [List.getElem?_append_right (by omega)] at hi hj
        have := hr _ _ hi
        have := hr _ _ hj
        omega
    · by_cases h1 : k9 < W1.length
      · rw [List.getElem?_append_left h1] at hx
        exact hD1.2 k9 x hx
      · rw [List.getElem?_append_right (by omega)] at hx
        have := hr _ _ hx
        exact hA _ (by have := hS.1; omega)
  have hAr : ArrOfT s cA (.array ty) := fun N9 z9 => by
    obtain ⟨-, k9, hk9, cm9, hkk9⟩ := (hO 0 0 0).1
    exact ⟨(fun q hq => by cases hq), k9, hk9, cm9, hkk9⟩
  have hK2 : va_K D cl (tys ++ [(cA, .array ty)]) s := ⟨hK.1, fun k9 x hx => by
    by_cases hl : k9 < tys.length
    · rw [List.getElem?_append_left hl] at hx
      exact hK.2 k9 x hx
    · rw [List.getElem?_append_right (by omega)] at hx
      have h0 : k9 - tys.length < 1 := (List.getElem?_eq_some_iff.mp hx).1
      rw [show k9 - tys.length = 0 by omega] at hx
      cases hx
      exact ⟨hAr, fA⟩⟩
  obtain ⟨t, a1, b1⟩ := kk H.size (fun i => H.size + 1 + i) cA F.heap (fun i j _ _ h => by have h9 : H.size + 1 + i = H.size + 1 + j := h; omega) hnl hK2 (by rw [← vr_rows hnm]; exact vr_lay hP2) (by rw [← vr_rows hnm]; exact vr_layD hD2) ⟨by rw [f1]; have := hS.1; omega, fun x h1 h2 => (hold x (Nat.lt_of_lt_of_le h1 hS.1)).trans (hS.2.1 x h1 h2), hS.2.2⟩ F rfl X'
  refine ⟨t, step t ?_, b1⟩
  have e : T.heap.size = H.size := by rw [hT]
  rw [e]
  exact a1
end VGM
/-! ===== END ===== -/

/-! ===== BEGIN exceptions that leave a method, and their catching by the caller (launches without stack traces) ===== -/
section VXA
/-! The laws vx_back, vx_callV, vx_callS, vx_callSW, vx_throw0, vx_throwS follow proofs of the library, with one case more: JvmDerived/Free/Laws.lean (Back.of_free), Shelf42/LK1.lean (callV, callS), Shelf/KitTraced.lean (throwNew0V, throwNewS). -/
/-- where a method has thrown q: the class by its name, the cell, what was written, the world -/
def vx_T (XC : String → State → State → Prop) (st : State) (q : Addr) (t : State) (mc ms : Nat) (free : Addr → Prop) : Prop :=
  ∃ (E : String) (ce : Cell) (L : List Loc), XC E st t ∧ t.heap[q]? = some ce ∧ ce.vm = .none ∧ st.vm.findClass E = some ce.cls ∧ st.WarmedH t.vm ∧ st.sameButNew ({ t with vm := st.vm } : State) L mc ms ∧ ∀ z ∈ L, free z.base
def vx_Q (Qc : Array Value → State → Outcome → State → Prop) (XC : String → State → State → Prop) (mc ms : Nat) (free : Addr → Prop) : Array Value → State → Outcome → State → Prop := fun a st o t =>
  (Qc a st o t ∧ ∃ L, FrameEnd st o t L mc ms ∧ ∀ q ∈ L, free q.base) ∨ ∃ q, o = .threw q ∧ vx_T XC st q t mc ms free
/-- a callee that returns or throws -/
def vx_Met (l : Launch) (y : MethodName) (ws : List Cond) (rm : Room) (Pc : Array Value → State → Prop) (Qc : Array Value → State → Outcome → State → Prop) (XC : String → State → State → Prop) (mc ms : Nat) (free : Addr → Prop) : Prop :=
  MetFree l y (headSpec ws rm) Pc (fun _ _ _ _ _ => True) (vx_Q Qc XC mc ms free)
def vx_Post (XC : String → State → State → Prop) (mc ms : Nat) (free : Addr → Prop) : Pt → Array Value → Addr → Pt → Prop := fun A a q B =>
  ∃ (g : JFrame) (mk : MethodId) (t : State) (L : List Loc) (E : String) (ce : Cell), B.U.heap = t.heap ∧ B.U.vm = t.vm ∧ XC E (A.U.calling g mk a) t ∧ t.heap[q]? = some ce ∧ ce.vm = .none ∧ A.U.vm.findClass E = some ce.cls ∧ B.locs = A.locs ++ L ∧ (∀ z ∈ L, free z.base) ∧ B.cells = A.cells + mc ∧ B.slots = A.slots + ms
def vx_Back (l : Launch) (R : Room) (p : Program) (e : Env) (below : List Frame) (s : State) (sargs : Array Value) (y : MethodName) (len W9 : Nat)
    (Pre : Pt → Array Value → Prop) (Post : Pt → Array Value → Option Value → Pt → Prop) (PostX : Pt → Array Value → Addr → Pt → Prop) : Prop :=
  ∀ (m : MethodId) (meth : Method) (c : Code) (A : Pt) (g : JFrame) (ig : Instr) (mk : MethodId) (a : Array Value),
    Stand p l e R s m sargs below meth c A.U A.locs A.cells A.slots → g.method = m → g.locals.size = c.maxLocals → decode c.code g.pc = .ok (ig, len) →
    2 * g.monitorRoom + (g.stack.map fun v => v.category).sum ≤ W9 → A.U.methodNamed? y = some mk → Pre A a →
    (∃ (v : Option Value) (B : Pt), Stand p l e R s m sargs below meth c B.U B.locs B.cells B.slots ∧ Post A a v B ∧
      Steps p.tables e below (doInvoke e (A.U.setTop g) [] mk a).1 (B.U.setTop { g with pc := g.pc + len, stack := v.toList ++ g.stack })) ∨
    (∃ (q : Addr) (B : Pt), Stand p l e R s m sargs below meth c B.U B.locs B.cells B.slots ∧ PostX A a q B ∧
      Steps p.tables e below (doInvoke e (A.U.setTop g) [] mk a).1 ((B.U.setTop g).pushFrame (.throwing q)))
section Payer
variable {l : Launch} {R : Room} {p : Program} {e : Env} {below : List Frame} {s : State} {sargs : Array Value} {y : MethodName} {len W9 : Nat}
theorem vx_back {ws : List Cond} {rm : Room} {Pc : Array Value → State → Prop} {Qc : Array Value → State → Outcome → State → Prop} {XC : String → State → State → Prop} {mc ms : Nat} {free : Addr → Prop} {bytes : ByteArray} {maxL : Nat} {ret : Option FieldType}
    (hM : vx_Met l y ws rm Pc Qc XC mc ms free) (hblind : FrameBlind Pc) (hrc : rm.cells = mc) (hrs : rm.slots = ms)
    (hframes : rm.frames + 1 ≤ R.frames) (hlocals : W9 + (maxL + 11) + rm.locals ≤ R.locals)
    (hws : ∀ w ∈ ws, ∀ a' U, s.WarmedH U.vm → w.before a' U = true) (hcode : Cond.code y bytes maxL ret ∈ ws) (hinit : ∀ a' U, s.WarmedH U.vm → (Cond.initialized y.cls).before a' U = true) :
    vx_Back l R p e below s sargs y len W9 (PreOf R mc ms Pc) (PostOf Qc mc ms free) (vx_Post XC mc ms free) := by
  intro m meth c A g ig mk a X hg hsize hdg hW hn hp
  have h1 : (headSpec ws rm).pre.before a A.U = true := atoms_intro fun w hw => hws w hw _ _ X.warmed
  have h2 : (Cond.code y bytes maxL ret).before a A.U = true := hws _ hcode _ _ X.warmed
  have h3 : (Cond.initialized y.cls).before a A.U = true := hinit _ _ X.warmed
  have h4 : A.cells + (headSpec ws rm).room.cells ≤ R.cells := by rw [show (headSpec ws rm).room.cells = mc from hrc]; exact hp.1
  have h5 : A.slots + (headSpec ws rm).room.slots ≤ R.slots := by rw [show (headSpec ws rm).room.slots = ms from hrs]; exact hp.2.1
  have hPc : Pc a (A.U.calling g mk a) := hblind _ _ _ _ hp.2.2
  obtain ⟨U, Ls, c0, s0⟩ := A
  dsimp only [Pt.U, Pt.locs, Pt.cells, Pt.slots] at h1 h2 h3 h4 h5 X hn hPc ⊢
  obtain ⟨methY, cY, hmY, hcY, -, hlY, -, -, -, -⟩ := Cond.code_spec hn h2
  obtain ⟨kY, hkY, -⟩ := className_of_methodNamed hn
  have hinitY : kY.init = .initialized := Cond.initialized_spec (findClass_of_methodNamed hn) hkY h3
  have h : At U g.method c below := by rw [hg]; exact X.here
  have hlocals9 : W9 + (maxL + 11) + (headSpec ws rm).room.locals ≤ R.locals := hlocals
  have happ : (headSpec ws rm).appliesLoose y e.platform (U.calling g mk a) = true :=
    Spec.appliesLoose_calling (g := g) h hdg hn hkY hinitY
      (X.room_calling (g := g) (R' := (headSpec ws rm).room) hsize hmY hcY hframes (by rw [hlY]; omega) h4 h5) h1
  obtain ⟨mid, hmid⟩ := h.above
  have hfr : (U.setTop g).frames = (.java g :: mid) ++ below := by rw [State.frames_setTop' g h.top, hmid]; rfl
  obtain ⟨o, s₂, hsteps, -, hend, hq⟩ := Steps.callFree hM p X.admits X.cas X.clock (acts := []) hfr happ hPc trivial
  have hq' : vx_Q Qc XC mc ms free a (U.calling g mk a) o s₂ := hq
  rw [State.frames_setTop' g h.top] at hend
  obtain ⟨g₀, hg0⟩ := Option.isSome_iff_exists.mp h.top
  obtain ⟨r, hr⟩ := State.topJava?_eq_some.mp hg0
  have hr' : (({ U with heap := s₂.heap, slotsUsed := s₂.slotsUsed } : State).setVm s₂.vm).frames = .java g₀ :: r := hr
  rcases hq' with ⟨hqc, L, hfe, hL⟩ | ⟨q, rfl, E, ce, L, hx, hce, hcv, hcl, hW₂, hsm, hL⟩
  · obtain ⟨⟨v, rfl⟩, hW₂, e2, q2, q3, q4, q5, q6⟩ := id hfe
    have e3 : s₂ = ({ (U.calling g mk a).setFrames s₂.frames with heap := s₂.heap, slotsUsed := s₂.slotsUsed } : State).setVm s₂.vm := by
      have : s₂ = ({ s₂ with vm := (U.calling g mk a).vm } : State).setVm s₂.vm := rfl
      rw [e2] at this
      exact this
    obtain ⟨c₂, i₂, len₂, hc₂, hd₂, hf₂⟩ := hend
    have hW' : U.WarmedH s₂.vm := hW₂
    have hcc : c₂ = c := by
      have h1 : s₂.code? g.method = U.code? g.method := by
        rw [State.code?_eq, State.code?_eq, hW'.alike.method?]
      exact Option.some.inj (hc₂.symm.trans (h1.trans h.code))
    subst hcc
    have hlen : len₂ = len := by rw [hdg] at hd₂; cases hd₂; rfl
    subst hlen
    have hs₂ : s₂ = (({ U with heap := s₂.heap, slotsUsed := s₂.slotsUsed } : State).setVm s₂.vm).setTop { g with pc := g.pc + len₂, stack := v.toList ++ g.stack } := by
      refine e3.trans ?_
      rw [hf₂, State.calling_eq h.top, State.setFrames_setFrames, State.setTop_of_frames _ hr', hr]
      rfl
    have hsame : U.sameButNew ({ U with heap := s₂.heap, slotsUsed := s₂.slotsUsed } : State) L mc ms := by
      refine ⟨?_, q2, q3, q4, q5, q6⟩
      obtain ⟨t, ht, -⟩ := State.frames_cons hr
      show ({ U with heap := s₂.heap, slotsUsed := s₂.slotsUsed } : State) = { U.setFrames U.frames with heap := s₂.heap, slotsUsed := s₂.slotsUsed }
      rw [State.setFrames_self ht]
    subst hg
    refine Or.inl ⟨v, ⟨(({ U with heap := s₂.heap, slotsUsed := s₂.slotsUsed } : State).setVm s₂.vm), Ls ++ L, c0 + mc, s0 + ms⟩,
      ⟨X.admits, X.cas, X.clock, X.frames, X.room, X.hears, X.method, X.code, (X.here.setHeapUsed s₂.heap s₂.slotsUsed).setVm hW'.alike, X.tail, State.WarmedH.trans X.warmed hW', X.limits, X.bytes, X.same.trans (hsame.setVm s.vm)⟩,
      ⟨g, mk, s₂, L, rfl, rfl, hqc, rfl, hL, rfl, rfl⟩, ?_⟩
    show Steps p.tables e below _ ((({ U with heap := s₂.heap, slotsUsed := s₂.slotsUsed } : State).setVm s₂.vm).setTop { g with pc := g.pc + len₂, stack := v.toList ++ g.stack })
    rw [← hs₂]
    exact hsteps
  · obtain ⟨e2, q2, q3, q4, q5, q6⟩ := id hsm
    have e3 : s₂ = ({ (U.calling g mk a).setFrames s₂.frames with heap := s₂.heap, slotsUsed := s₂.slotsUsed } : State).setVm s₂.vm := by
      have : s₂ = ({ s₂ with vm := (U.calling g mk a).vm } : State).setVm s₂.vm := rfl
      rw [e2] at this
      exact this
    have hf₂ : s₂.frames = .throwing q :: .java g :: U.frames.tail := hend
    have hW' : U.WarmedH s₂.vm := hW₂
    have hs₂ : s₂ = ((({ U with heap := s₂.heap, slotsUsed := s₂.slotsUsed } : State).setVm s₂.vm).setTop g).pushFrame (.throwing q) := by
      refine e3.trans ?_
      rw [hf₂, State.calling_eq h.top, State.setFrames_setFrames, State.pushFrame, State.frames_setTop _ hr', State.setTop_of_frames _ hr', State.setFrames_setFrames, hr]
      rfl
    have hsame : U.sameButNew ({ U with heap := s₂.heap, slotsUsed := s₂.slotsUsed } : State) L mc ms := by
      refine ⟨?_, q2, q3, q4, q5, q6⟩
      obtain ⟨t, ht, -⟩ := State.frames_cons hr
      show ({ U with heap := s₂.heap, slotsUsed := s₂.slotsUsed } : State) = { U.setFrames U.frames with heap := s₂.heap, slotsUsed := s₂.slotsUsed }
      rw [State.setFrames_self ht]
    subst hg
    refine Or.inr ⟨q, ⟨(({ U with heap := s₂.heap, slotsUsed := s₂.slotsUsed } : State).setVm s₂.vm), Ls ++ L, c0 + mc, s0 + ms⟩,
      ⟨X.admits, X.cas, X.clock, X.frames, X.room, X.hears, X.method, X.code, (X.here.setHeapUsed s₂.heap s₂.slotsUsed).setVm hW'.alike, X.tail, State.WarmedH.trans X.warmed hW', X.limits, X.bytes, X.same.trans (hsame.setVm s.vm)⟩,
      ⟨g, mk, s₂, L, E, ce, rfl, rfl, hx, hce, hcv, hcl, rfl, hL, rfl, rfl⟩, ?_⟩
    show Steps p.tables e below _ (((({ U with heap := s₂.heap, slotsUsed := s₂.slotsUsed } : State).setVm s₂.vm).setTop g).pushFrame (.throwing q))
    rw [← hs₂]
    exact hsteps
end Payer
section Calls
variable {p : Program} {l : Launch} {e : Env} {R : Room} {s : State} {m : MethodId} {args : Array Value} {below : List Frame} {meth : Method} {c : Code} {T : State} {locs : List Loc} {cells slots : Nat}
theorem vx_callV (X : Stand p l e R s m args below meth c T locs cells slots) (hexec : p.tables.exec = Jvm.exec) {own C : String} {index : Nat} {y : MethodName} {bytes : ByteArray} {maxL : Nat} {ret : Option FieldType}
    (hown : s.vm.findClass own = some m.cls) (hlink : (Cond.methodLink own index y).before args s = true) (hinst : (Cond.instanceMethod y).before args s = true) (hsel : (Cond.selects C y y).before args s = true)
    (hcode : (Cond.code y bytes maxL ret).before args s = true) (hy : y.cls ≠ "java/lang/invoke/MethodHandle" ∧ y.cls ≠ "java/lang/invoke/VarHandle")
    {W9 : Nat} {Pre : Pt → Array Value → Prop} {Post : Pt → Array Value → Option Value → Pt → Prop} {PostX : Pt → Array Value → Addr → Pt → Prop} (hK : vx_Back l R p e below s args y 3 W9 Pre Post PostX)
    {b : Addr} {cellB : Cell} (hcell : T.heap[b]? = some cellB) (hobj : cellB.vm.isStatics = false) (hcls : s.vm.findClass C = some cellB.cls)
    {g : JFrame} (hg : g.method = m) (hsize : g.locals.size = c.maxLocals) {argsL rest : List Value} (hlen : ∀ sig, parseMethodDescriptor y.desc = some sig → argsL.length = sig.parameters.length)
    (hstack : g.stack = argsL.reverse ++ .ref b :: rest) (hW : 2 * g.monitorRoom + (rest.map fun v => v.category).sum ≤ W9) (hdg : decode c.code g.pc = .ok (.invokevirtual index, 3))
    (hpre : ∀ vm₁, s.WarmedH vm₁ → Pre ⟨T.setVm vm₁, locs, cells, slots⟩ (Value.ref b :: argsL).toArray) :
    (∃ (v : Option Value) (vm₁ : Vm) (B : Pt), s.WarmedH vm₁ ∧ Stand p l e R s m args below meth c B.U B.locs B.cells B.slots ∧ Post ⟨T.setVm vm₁, locs, cells, slots⟩ (Value.ref b :: argsL).toArray v B ∧
      ∀ target, Steps p.tables e below (B.U.setTop { g with pc := g.pc + 3, stack := v.toList ++ rest }) target → Steps p.tables e below (T.setTop g) target) ∨
    (∃ (q : Addr) (vm₁ : Vm) (B : Pt), s.WarmedH vm₁ ∧ Stand p l e R s m args below meth c B.U B.locs B.cells B.slots ∧ PostX ⟨T.setVm vm₁, locs, cells, slots⟩ (Value.ref b :: argsL).toArray q B ∧
      Steps p.tables e below (T.setTop g) ((B.U.setTop { g with stack := rest }).pushFrame (.throwing q))) := by
  obtain ⟨mk, methM, hnamed, hmethM, hstM, habM⟩ := Cond.instanceMethod_spec hinst
  obtain ⟨methM', cM, hmethM', -, -, -, -, -, -, hsigM⟩ := Cond.code_spec hnamed hcode
  cases hmethM.symm.trans hmethM'
  obtain ⟨c2, r2, m2, q1, q2, q3, q4, kP, hkP, hkPi⟩ := Cond.selects_spec hsel
  cases hcls.symm.trans q1
  cases (State.methodFound?_of_named hnamed hy).symm.trans q2
  cases hnamed.symm.trans q3
  have hselP : selectMethod e.platform s.vm cellB.cls mk = .method mk := by rw [Launch.admits_selectMethod X.admits]; exact q4
  obtain ⟨vm₁, X₁, hstep₁⟩ := X.invokevirtual hexec hown hlink hnamed hmethM hstM hkP hkPi hy (a := b) (cell := cellB) hcell
    (fun z h => by rw [h] at hobj; cases hobj) hselP hmethM habM hkP hkPi (g := g) hg (argsL := argsL) (rest := rest) (hlen _ hsigM) hstack hdg
  rcases hK m meth c ⟨T.setVm vm₁, locs, cells, slots⟩ { g with stack := rest } (.invokevirtual index) mk (Value.ref b :: argsL).toArray X₁ hg hsize hdg hW (X₁.named hnamed) (hpre vm₁ X₁.warmed) with ⟨v, B, X', hpost, hsteps⟩ | ⟨q, B, X', hpost, hsteps⟩
  · exact Or.inl ⟨v, vm₁, B, X₁.warmed, X', hpost, fun target h => hstep₁ _ fun acts => by rw [doInvoke_state]; exact hsteps.trans h⟩
  · exact Or.inr ⟨q, vm₁, B, X₁.warmed, X', hpost, hstep₁ _ fun acts => by rw [doInvoke_state]; exact hsteps⟩
theorem vx_callS (X : Stand p l e R s m args below meth c T locs cells slots) (hexec : p.tables.exec = Jvm.exec) {own : String} {index : Nat} {y : MethodName} {bytes : ByteArray} {maxL : Nat} {ret : Option FieldType}
    (hown : s.vm.findClass own = some m.cls) (hlink : (Cond.methodLink own index y).before args s = true) (hstat : (Cond.static y).before args s = true) (hinit : (Cond.initialized y.cls).before args s = true)
    (hcode : (Cond.code y bytes maxL ret).before args s = true) (hy : y.cls ≠ "java/lang/invoke/MethodHandle" ∧ y.cls ≠ "java/lang/invoke/VarHandle")
    {W9 : Nat} {Pre : Pt → Array Value → Prop} {Post : Pt → Array Value → Option Value → Pt → Prop} {PostX : Pt → Array Value → Addr → Pt → Prop} (hK : vx_Back l R p e below s args y 3 W9 Pre Post PostX)
    {g : JFrame} (hg : g.method = m) (hsize : g.locals.size = c.maxLocals) {argsL rest : List Value} (hlen : ∀ sig, parseMethodDescriptor y.desc = some sig → argsL.length = sig.parameters.length)
    (hstack : g.stack = argsL.reverse ++ rest) (hW : 2 * g.monitorRoom + (rest.map fun v => v.category).sum ≤ W9) (hdg : decode c.code g.pc = .ok (.invokestatic index, 3))
    (hpre : ∀ vm₁, s.WarmedH vm₁ → Pre ⟨T.setVm vm₁, locs, cells, slots⟩ argsL.toArray) :
    (∃ (v : Option Value) (vm₁ : Vm) (B : Pt), s.WarmedH vm₁ ∧ Stand p l e R s m args below meth c B.U B.locs B.cells B.slots ∧ Post ⟨T.setVm vm₁, locs, cells, slots⟩ argsL.toArray v B ∧
      ∀ target, Steps p.tables e below (B.U.setTop { g with pc := g.pc + 3, stack := v.toList ++ rest }) target → Steps p.tables e below (T.setTop g) target) ∨
    (∃ (q : Addr) (vm₁ : Vm) (B : Pt), s.WarmedH vm₁ ∧ Stand p l e R s m args below meth c B.U B.locs B.cells B.slots ∧ PostX ⟨T.setVm vm₁, locs, cells, slots⟩ argsL.toArray q B ∧
      Steps p.tables e below (T.setTop g) ((B.U.setTop { g with stack := rest }).pushFrame (.throwing q))) := by
  obtain ⟨mk, hnamed⟩ := Cond.code_named hcode
  obtain ⟨methM, cM, hmethM, -, -, -, -, -, -, hsigM⟩ := Cond.code_spec hnamed hcode
  have hstatic : methM.isStatic = true := Cond.static_spec hnamed hmethM hstat
  obtain ⟨kP, hkP, -⟩ := className_of_methodNamed hnamed
  have hinitP : kP.init = .initialized := Cond.initialized_spec (findClass_of_methodNamed hnamed) hkP hinit
  obtain ⟨vm₁, X₁, hstep₁⟩ := X.invokestatic hexec hown hlink hnamed hmethM hstatic hkP hinitP hy (g := g) hg (argsL := argsL) (rest := rest) (hlen _ hsigM) hstack hdg
  rcases hK m meth c ⟨T.setVm vm₁, locs, cells, slots⟩ { g with stack := rest } (.invokestatic index) mk argsL.toArray X₁ hg hsize hdg hW (X₁.named hnamed) (hpre vm₁ X₁.warmed) with ⟨v, B, X', hpost, hsteps⟩ | ⟨q, B, X', hpost, hsteps⟩
  · exact Or.inl ⟨v, vm₁, B, X₁.warmed, X', hpost, fun target h => hstep₁ _ fun acts => by rw [doInvoke_state]; exact hsteps.trans h⟩
  · exact Or.inr ⟨q, vm₁, B, X₁.warmed, X', hpost, hstep₁ _ fun acts => by rw [doInvoke_state]; exact hsteps⟩
end Calls
theorem vx_cls {s : State} {T : State} {vm₁ : Vm} {E : String} {k : ClassId} (hW : s.WarmedH vm₁) (h : (T.setVm vm₁).vm.findClass E = some k) : s.vm.findClass E = some k := by
  have h1 : vm₁.findClass E = some k := h
  rw [hW.alike.findClass] at h1
  exact h1
/-- the method's frame g, with q thrown over it -/
def vx_W (p : Program) (l : Launch) (e : Env) (R : Room) (s : State) (m : MethodId) (args : Array Value) (below : List Frame) (meth : Method) (c : Code) (H : Heap) (locs : List Loc) (cells slots : Nat) (Q : State → Prop) (g : JFrame) (q : Addr) : Prop :=
  ∀ T : State, T.heap = H → Stand p l e R s m args below meth c T locs cells slots → ∃ t, Steps p.tables e below ((T.setTop g).pushFrame (.throwing q)) t ∧ Q t
def vx_Run (p : Program) (l : Launch) (e : Env) (R : Room) (s : State) (m : MethodId) (args : Array Value) (below : List Frame) (meth : Method) (c : Code) (H : Heap) (locs : List Loc) (cells slots mc ms : Nat) (g : JFrame) (rest : List Value) (Qa : State → Outcome → State → Prop) (XC : String → State → State → Prop) (free : Addr → Prop) : Prop :=
  ∀ T : State, T.heap = H → Stand p l e R s m args below meth c T locs cells slots →
    (∃ (v : Option Value) (st₀ t T' : State) (L : List Loc), st₀.heap = H ∧ Stand p l e R s m args below meth c T' (locs ++ L) (cells + mc) (slots + ms) ∧ (∀ q ∈ L, free q.base) ∧ T'.heap = t.heap ∧ T'.vm = t.vm ∧ Qa st₀ (.returned v) t ∧
      Goes p e below T g T' { g with pc := g.pc + 3, stack := v.toList ++ rest }) ∨
    (∃ (q : Addr) (st₀ t T' : State) (L : List Loc) (E : String) (ce : Cell), st₀.heap = H ∧ Stand p l e R s m args below meth c T' (locs ++ L) (cells + mc) (slots + ms) ∧ (∀ z ∈ L, free z.base) ∧ T'.heap = t.heap ∧ T'.vm = t.vm ∧ XC E st₀ t ∧ t.heap[q]? = some ce ∧ ce.vm = .none ∧ s.vm.findClass E = some ce.cls ∧
      Steps p.tables e below (T.setTop g) ((T'.setTop { g with stack := rest }).pushFrame (.throwing q)))
def vx_X {S : Type} (px : S → Prop) (B : String → S → State → Prop) (A : Nat → Prop) : String → State → State → Prop := fun E st t => ∃ u : S, px u ∧ B E u t ∧ va_F A st t
section Runs
variable {p : Program} {l : Launch} {e : Env} {R : Room} {s : State} {m : MethodId} {args : Array Value} {below : List Frame} {meth : Method} {c : Code} {H : Heap} {locs : List Loc} {cells slots : Nat}
variable {y : MethodName} {bytes cc : ByteArray} {maxL nL mc ms n index : Nat} {ret : Option FieldType} {ws : List Cond} {rm : Room} {Pc : Array Value → State → Prop} {Qc : Array Value → State → Outcome → State → Prop} {XC : String → State → State → Prop} {free : Addr → Prop} {Ts : List Cond} {own C : String} {b : Addr} {As rest : List Value} {g : JFrame}
theorem vx_callBack (cb : CallB R s args own index y bytes maxL ret ws rm mc ms n) (hM : vx_Met l y ws rm Pc Qc XC mc ms free) (hbl : FrameBlind Pc) : vx_Back l R p e below s args y 3 8 (PreOf R mc ms Pc) (PostOf Qc mc ms free) (vx_Post XC mc ms free) := by
  obtain ⟨hrc, hrs, hfr, hlo, hws, hcw, -, hini, -⟩ := cb
  exact vx_back (bytes := bytes) (maxL := maxL) (ret := ret) hM hbl hrc hrs hfr hlo hws hcw (fun a' U hW => word_at hW (Or.inl (by first | rfl | simp [Cond.onTables, Cond.keeps, Cond.steady])) hini)
theorem vx_runV (S : CallFix p m c cc nL s args Ts own) (hM : vx_Met l y ws rm Pc Qc XC mc ms free) (cw : CallW R s args own C index y bytes maxL ret ws rm mc ms n) (hp : PreV s H C b Pc As)
    (hg : g.method = m) (hn : As.length = n) (hsize : g.locals.size = nL) (hstack : g.stack = As.reverse ++ .ref b :: rest) (hW : 2 * g.monitorRoom + (rest.map fun v => v.category).sum ≤ 8) (hdg : decode cc g.pc = .ok (.invokevirtual index, 3)) (hf : cells + mc ≤ R.cells ∧ slots + ms ≤ R.slots) :
    vx_Run p l e R s m args below meth c H locs cells slots mc ms g rest (Qc (Value.ref b :: As).toArray) XC free := by
  have hK : vx_Back l R p e below s args y 3 8 (PreOf R mc ms Pc) (PostOf Qc mc ms free) (vx_Post XC mc ms free) := vx_callBack cw.1 hM hp.1
  obtain ⟨⟨-, -, -, -, -, -, hcode, -, hy, hlen, hl⟩, hin, hse⟩ := cw
  obtain ⟨hx, hb, hml, ho, -⟩ := S
  obtain ⟨-, ⟨cellB, hcB, hoB, hclB⟩, hPc⟩ := hp
  intro T hT X
  rcases vx_callV X hx (C := C) (bytes := bytes) (maxL := maxL) (ret := ret) ho hl hin hse hcode hy hK (by rw [hT]; exact hcB) hoB hclB hg (hsize.trans hml.symm) (argsL := As) (rest := rest) (fun sig h => hn.trans (hlen sig h)) hstack hW (by rw [hb]; exact hdg)
    (fun vm₁ hW₁ => ⟨hf.1, hf.2, hPc (T.setVm vm₁) hT hW₁⟩) with ⟨v, vm₁, ⟨U', l2, c2, s2⟩, hW₁, X', ⟨g', mk, t, L, e1, e2, hq, h1, hL, h2, h3⟩, st⟩ | ⟨q, vm₁, ⟨U', l2, c2, s2⟩, hW₁, X', ⟨g', mk, t, L, E, ce, e1, e2, hq, hce, hcv, hcl, h1, hL, h2, h3⟩, st⟩
  · dsimp only [Pt.U, Pt.locs, Pt.cells, Pt.slots] at X' e1 e2 h1 h2 h3 st
    subst h1; subst h2; subst h3
    exact Or.inl ⟨v, (T.setVm vm₁).calling g' mk (Value.ref b :: As).toArray, t, U', L, hT, X', hL, e1, e2, hq, st⟩
  · dsimp only [Pt.U, Pt.locs, Pt.cells, Pt.slots] at X' e1 e2 h1 h2 h3 st hcl
    subst h1; subst h2; subst h3
    exact Or.inr ⟨q, (T.setVm vm₁).calling g' mk (Value.ref b :: As).toArray, t, U', L, E, ce, hT, X', hL, e1, e2, hq, hce, hcv, vx_cls hW₁ hcl, st⟩
theorem vx_runS (S : CallFix p m c cc nL s args Ts own) (hM : vx_Met l y ws rm Pc Qc XC mc ms free) (cw : CallB R s args own index y bytes maxL ret ws rm mc ms n ∧ (Cond.static y).before args s = true) (hp : PreS s H Pc As)
    (hg : g.method = m) (hn : As.length = n) (hsize : g.locals.size = nL) (hstack : g.stack = As.reverse ++ rest) (hW : 2 * g.monitorRoom + (rest.map fun v => v.category).sum ≤ 8) (hdg : decode cc g.pc = .ok (.invokestatic index, 3)) (hf : cells + mc ≤ R.cells ∧ slots + ms ≤ R.slots) :
    vx_Run p l e R s m args below meth c H locs cells slots mc ms g rest (Qc As.toArray) XC free := by
  have hK : vx_Back l R p e below s args y 3 8 (PreOf R mc ms Pc) (PostOf Qc mc ms free) (vx_Post XC mc ms free) := vx_callBack cw.1 hM hp.1
  obtain ⟨⟨-, -, -, -, -, -, hcode, hini, hy, hlen, hl⟩, hstt⟩ := cw
  obtain ⟨hx, hb, hml, ho, -⟩ := S
  intro T hT X
  rcases vx_callS X hx (bytes := bytes) (maxL := maxL) (ret := ret) ho hl hstt hini hcode hy hK hg (hsize.trans hml.symm) (argsL := As) (rest := rest) (fun sig h => hn.trans (hlen sig h)) hstack hW (by rw [hb]; exact hdg)
    (fun vm₁ hW₁ => ⟨hf.1, hf.2, hp.2 (T.setVm vm₁) hT hW₁⟩) with ⟨v, vm₁, ⟨U', l2, c2, s2⟩, hW₁, X', ⟨g', mk, t, L, e1, e2, hq, h1, hL, h2, h3⟩, st⟩ | ⟨q, vm₁, ⟨U', l2, c2, s2⟩, hW₁, X', ⟨g', mk, t, L, E, ce, e1, e2, hq, hce, hcv, hcl, h1, hL, h2, h3⟩, st⟩
  · dsimp only [Pt.U, Pt.locs, Pt.cells, Pt.slots] at X' e1 e2 h1 h2 h3 st
    subst h1; subst h2; subst h3
    exact Or.inl ⟨v, (T.setVm vm₁).calling g' mk As.toArray, t, U', L, hT, X', hL, e1, e2, hq, st⟩
  · dsimp only [Pt.U, Pt.locs, Pt.cells, Pt.slots] at X' e1 e2 h1 h2 h3 st hcl
    subst h1; subst h2; subst h3
    exact Or.inr ⟨q, (T.setVm vm₁).calling g' mk As.toArray, t, U', L, E, ce, hT, X', hL, e1, e2, hq, hce, hcv, vx_cls hW₁ hcl, st⟩
end Runs
section Rows
variable {p : Program} {l : Launch} {e : Env} {R : Room} {s : State} {m : MethodId} {args : Array Value} {below : List Frame} {meth : Method} {c : Code} {H : Heap} {locs : List Loc} {cells slots : Nat} {Q : State → Prop}
variable {mc ms : Nat} {free : Addr → Prop} {A0 A1 : Nat → Prop} {H0 : Heap} {a : Array Value} {pc : Nat} {ls : Array Slot} {st0 rest : List Value}
theorem vx_keep {st₀ t T' : State} {L : List Loc} (h0 : st₀.heap = H) (e1 : T'.heap = t.heap) (hS : va_S A0 H0 H locs) (hA : ∀ q, q < H.size → A1 q → A0 q) (hf : ∀ q, free q → A0 q) (hL : ∀ q ∈ L, free q.base) (hF : va_F A1 st₀ t) :
    H.size ≤ T'.heap.size ∧ (∀ q : Nat, q < H.size → ¬ A1 q → T'.heap[q]? = H[q]?) ∧ va_S A0 H0 T'.heap (locs ++ L) := by
  obtain ⟨hz, hk⟩ := hF
  rw [h0] at hz hk
  exact ⟨by rw [e1]; exact hz, fun q h1 h2 => by rw [e1]; exact hk q h1 h2,
    ⟨Nat.le_trans hS.1 (by rw [e1]; exact hz), fun q h1 h2 => by rw [e1, hk q (Nat.lt_of_lt_of_le h1 hS.1) (fun z => h2 (hA q (Nat.lt_of_lt_of_le h1 hS.1) z))]; exact hS.2.1 q h1 h2, fun q hq => by
      rcases List.mem_append.mp hq with h | h
      · exact hS.2.2 q h
      · exact hf _ (hL q h)⟩⟩
theorem vx_calli {S SX : Type} {post : Int32 → S → Prop} {px : SX → Prop} {B : S → State → Prop} {BX : String → SX → State → Prop} {AX : Nat → Prop} (hr : vx_Run p l e R s m args below meth c H locs cells slots mc ms (F0 m pc ls st0) rest (va_Qi post B A1 a) (vx_X px BX AX) free) (hS : va_S A0 H0 H locs) (hA : ∀ q, q < H.size → A1 q → A0 q) (hf : ∀ q, free q → A0 q) (hAX : ∀ q, q < H.size → AX q → A0 q)
    (kx : ∀ (E : String) (ce : Cell) (q9 : Addr) (u : SX) (t : State) (H1 : Heap) (locs1 : List Loc), t.heap = H1 → s.vm.Alike t.vm → px u → BX E u t → H.size ≤ H1.size → (∀ q : Nat, q < H.size → ¬ AX q → H1[q]? = H[q]?) → va_S A0 H0 H1 locs1 → H1[q9]? = some ce → ce.vm = .none → s.vm.findClass E = some ce.cls → vx_W p l e R s m args below meth c H1 locs1 (cells + mc) (slots + ms) Q (F0 m pc ls rest) q9)
    (kk : ∀ (r : Int32) (u : S) (t : State) (H1 : Heap) (locs1 : List Loc), t.heap = H1 → s.vm.Alike t.vm → post r u → B u t → H.size ≤ H1.size → (∀ q : Nat, q < H.size → ¬ A1 q → H1[q]? = H[q]?) → va_S A0 H0 H1 locs1 → W p l e R s m args below meth c H1 locs1 (cells + mc) (slots + ms) Q (F0 m (pc + 3) ls (.int r :: rest))) : W p l e R s m args below meth c H locs cells slots Q (F0 m pc ls st0) := by
  intro T hT X
  rcases hr T hT X with ⟨v, st₀, t, T', L, h0, X', hL, e1, e2, ⟨⟨r, u, hv, hp, hb⟩, hF⟩, st⟩ | ⟨q, st₀, t, T', L, E, ce, h0, X', hL, e1, e2, ⟨u, hp, hb, hF⟩, hce, hcv, hcl, st⟩
  · cases hv
    obtain ⟨k1, k2, k3⟩ := vx_keep h0 e1 hS hA hf hL hF
    obtain ⟨t2, a1, b1⟩ := kk r u t T'.heap (locs ++ L) e1.symm (by rw [← e2]; exact X'.warmed.alike) hp hb k1 k2 k3 T' rfl X'
    exact ⟨t2, st t2 a1, b1⟩
  · obtain ⟨k1, k2, k3⟩ := vx_keep h0 e1 hS hAX hf hL hF
    obtain ⟨t2, a1, b1⟩ := kx E ce q u t T'.heap (locs ++ L) e1.symm (by rw [← e2]; exact X'.warmed.alike) hp hb k1 k2 k3 (by rw [e1]; exact hce) hcv hcl T' rfl X'
    exact ⟨t2, st.trans a1, b1⟩
theorem vx_calll {S SX : Type} {post : Int64 → S → Prop} {px : SX → Prop} {B : S → State → Prop} {BX : String → SX → State → Prop} {AX : Nat → Prop} (hr : vx_Run p l e R s m args below meth c H locs cells slots mc ms (F0 m pc ls st0) rest (va_Ql post B A1 a) (vx_X px BX AX) free) (hS : va_S A0 H0 H locs) (hA : ∀ q, q < H.size → A1 q → A0 q) (hf : ∀ q, free q → A0 q) (hAX : ∀ q, q < H.size → AX q → A0 q)
    (kx : ∀ (E : String) (ce : Cell) (q9 : Addr) (u : SX) (t : State) (H1 : Heap) (locs1 : List Loc), t.heap = H1 → s.vm.Alike t.vm → px u → BX E u t → H.size ≤ H1.size → (∀ q : Nat, q < H.size → ¬ AX q → H1[q]? = H[q]?) → va_S A0 H0 H1 locs1 → H1[q9]? = some ce → ce.vm = .none → s.vm.findClass E = some ce.cls → vx_W p l e R s m args below meth c H1 locs1 (cells + mc) (slots + ms) Q (F0 m pc ls rest) q9)
    (kk : ∀ (r : Int64) (u : S) (t : State) (H1 : Heap) (locs1 : List Loc), t.heap = H1 → s.vm.Alike t.vm → post r u → B u t → H.size ≤ H1.size → (∀ q : Nat, q < H.size → ¬ A1 q → H1[q]? = H[q]?) → va_S A0 H0 H1 locs1 → W p l e R s m args below meth c H1 locs1 (cells + mc) (slots + ms) Q (F0 m (pc + 3) ls (.long r :: rest))) : W p l e R s m args below meth c H locs cells slots Q (F0 m pc ls st0) := by
  intro T hT X
  rcases hr T hT X with ⟨v, st₀, t, T', L, h0, X', hL, e1, e2, ⟨⟨r, u, hv, hp, hb⟩, hF⟩, st⟩ | ⟨q, st₀, t, T', L, E, ce, h0, X', hL, e1, e2, ⟨u, hp, hb, hF⟩, hce, hcv, hcl, st⟩
  · cases hv
    obtain ⟨k1, k2, k3⟩ := vx_keep h0 e1 hS hA hf hL hF
    obtain ⟨t2, a1, b1⟩ := kk r u t T'.heap (locs ++ L) e1.symm (by rw [← e2]; exact X'.warmed.alike) hp hb k1 k2 k3 T' rfl X'
    exact ⟨t2, st t2 a1, b1⟩
  · obtain ⟨k1, k2, k3⟩ := vx_keep h0 e1 hS hAX hf hL hF
    obtain ⟨t2, a1, b1⟩ := kx E ce q u t T'.heap (locs ++ L) e1.symm (by rw [← e2]; exact X'.warmed.alike) hp hb k1 k2 k3 (by rw [e1]; exact hce) hcv hcl T' rfl X'
    exact ⟨t2, st.trans a1, b1⟩
theorem vx_callf {S SX : Type} {post : UInt32 → S → Prop} {px : SX → Prop} {B : S → State → Prop} {BX : String → SX → State → Prop} {AX : Nat → Prop} (hr : vx_Run p l e R s m args below meth c H locs cells slots mc ms (F0 m pc ls st0) rest (va_Qf post B A1 a) (vx_X px BX AX) free) (hS : va_S A0 H0 H locs) (hA : ∀ q, q < H.size → A1 q → A0 q) (hf : ∀ q, free q → A0 q) (hAX : ∀ q, q < H.size → AX q → A0 q)
    (kx : ∀ (E : String) (ce : Cell) (q9 : Addr) (u : SX) (t : State) (H1 : Heap) (locs1 : List Loc), t.heap = H1 → s.vm.Alike t.vm → px u → BX E u t → H.size ≤ H1.size → (∀ q : Nat, q < H.size → ¬ AX q → H1[q]? = H[q]?) → va_S A0 H0 H1 locs1 → H1[q9]? = some ce → ce.vm = .none → s.vm.findClass E = some ce.cls → vx_W p l e R s m args below meth c H1 locs1 (cells + mc) (slots + ms) Q (F0 m pc ls rest) q9)
    (kk : ∀ (r : UInt32) (u : S) (t : State) (H1 : Heap) (locs1 : List Loc), t.heap = H1 → s.vm.Alike t.vm → post r u → B u t → H.size ≤ H1.size → (∀ q : Nat, q < H.size → ¬ A1 q → H1[q]? = H[q]?) → va_S A0 H0 H1 locs1 → W p l e R s m args below meth c H1 locs1 (cells + mc) (slots + ms) Q (F0 m (pc + 3) ls (.float r :: rest))) : W p l e R s m args below meth c H locs cells slots Q (F0 m pc ls st0) := by
  intro T hT X
  rcases hr T hT X with ⟨v, st₀, t, T', L, h0, X', hL, e1, e2, ⟨⟨r, u, hv, hp, hb⟩, hF⟩, st⟩ | ⟨q, st₀, t, T', L, E, ce, h0, X', hL, e1, e2, ⟨u, hp, hb, hF⟩, hce, hcv, hcl, st⟩
  · cases hv
    obtain ⟨k1, k2, k3⟩ := vx_keep h0 e1 hS hA hf hL hF
    obtain ⟨t2, a1, b1⟩ := kk r u t T'.heap (locs ++ L) e1.symm (by rw [← e2]; exact X'.warmed.alike) hp hb k1 k2 k3 T' rfl X'
    exact ⟨t2, st t2 a1, b1⟩
  · obtain ⟨k1, k2, k3⟩ := vx_keep h0 e1 hS hAX hf hL hF
    obtain ⟨t2, a1, b1⟩ := kx E ce q u t T'.heap (locs ++ L) e1.symm (by rw [← e2]; exact X'.warmed.alike) hp hb k1 k2 k3 (by rw [e1]; exact hce) hcv hcl T' rfl X'
    exact ⟨t2, st.trans a1, b1⟩
theorem vx_calld {S SX : Type} {post : UInt64 → S → Prop} {px : SX → Prop} {B : S → State → Prop} {BX : String → SX → State → Prop} {AX : Nat → Prop} (hr : vx_Run p l e R s m args below meth c H locs cells slots mc ms (F0 m pc ls st0) rest (va_Qd post B A1 a) (vx_X px BX AX) free) (hS : va_S A0 H0 H locs) (hA : ∀ q, q < H.size → A1 q → A0 q) (hf : ∀ q, free q → A0 q) (hAX : ∀ q, q < H.size → AX q → A0 q)
    (kx : ∀ (E : String) (ce : Cell) (q9 : Addr) (u : SX) (t : State) (H1 : Heap) (locs1 : List Loc), t.heap = H1 → s.vm.Alike t.vm → px u → BX E u t → H.size ≤ H1.size → (∀ q : Nat, q < H.size → ¬ AX q → H1[q]? = H[q]?) → va_S A0 H0 H1 locs1 → H1[q9]? = some ce → ce.vm = .none → s.vm.findClass E = some ce.cls → vx_W p l e R s m args below meth c H1 locs1 (cells + mc) (slots + ms) Q (F0 m pc ls rest) q9)
    (kk : ∀ (r : UInt64) (u : S) (t : State) (H1 : Heap) (locs1 : List Loc), t.heap = H1 → s.vm.Alike t.vm → post r u → B u t → H.size ≤ H1.size → (∀ q : Nat, q < H.size → ¬ A1 q → H1[q]? = H[q]?) → va_S A0 H0 H1 locs1 → W p l e R s m args below meth c H1 locs1 (cells + mc) (slots + ms) Q (F0 m (pc + 3) ls (.double r :: rest))) : W p l e R s m args below meth c H locs cells slots Q (F0 m pc ls st0) := by
  intro T hT X
  rcases hr T hT X with ⟨v, st₀, t, T', L, h0, X', hL, e1, e2, ⟨⟨r, u, hv, hp, hb⟩, hF⟩, st⟩ | ⟨q, st₀, t, T', L, E, ce, h0, X', hL, e1, e2, ⟨u, hp, hb, hF⟩, hce, hcv, hcl, st⟩
  · cases hv
    obtain ⟨k1, k2, k3⟩ := vx_keep h0 e1 hS hA hf hL hF
    obtain ⟨t2, a1, b1⟩ := kk r u t T'.heap (locs ++ L) e1.symm (by rw [← e2]; exact X'.warmed.alike) hp hb k1 k2 k3 T' rfl X'
    exact ⟨t2, st t2 a1, b1⟩
  · obtain ⟨k1, k2, k3⟩ := vx_keep h0 e1 hS hAX hf hL hF
    obtain ⟨t2, a1, b1⟩ := kx E ce q u t T'.heap (locs ++ L) e1.symm (by rw [← e2]; exact X'.warmed.alike) hp hb k1 k2 k3 (by rw [e1]; exact hce) hcv hcl T' rfl X'
    exact ⟨t2, st.trans a1, b1⟩
theorem vx_callv {S SX : Type} {post : S → Prop} {px : SX → Prop} {B : S → State → Prop} {BX : String → SX → State → Prop} {AX : Nat → Prop} (hr : vx_Run p l e R s m args below meth c H locs cells slots mc ms (F0 m pc ls st0) rest (va_Qv post B A1 a) (vx_X px BX AX) free) (hS : va_S A0 H0 H locs) (hA : ∀ q, q < H.size → A1 q → A0 q) (hf : ∀ q, free q → A0 q) (hAX : ∀ q, q < H.size → AX q → A0 q)
    (kx : ∀ (E : String) (ce : Cell) (q9 : Addr) (u : SX) (t : State) (H1 : Heap) (locs1 : List Loc), t.heap = H1 → s.vm.Alike t.vm → px u → BX E u t → H.size ≤ H1.size → (∀ q : Nat, q < H.size → ¬ AX q → H1[q]? = H[q]?) → va_S A0 H0 H1 locs1 → H1[q9]? = some ce → ce.vm = .none → s.vm.findClass E = some ce.cls → vx_W p l e R s m args below meth c H1 locs1 (cells + mc) (slots + ms) Q (F0 m pc ls rest) q9)
    (kk : ∀ (u : S) (t : State) (H1 : Heap) (locs1 : List Loc), t.heap = H1 → s.vm.Alike t.vm → post u → B u t → H.size ≤ H1.size → (∀ q : Nat, q < H.size → ¬ A1 q → H1[q]? = H[q]?) → va_S A0 H0 H1 locs1 → W p l e R s m args below meth c H1 locs1 (cells + mc) (slots + ms) Q (F0 m (pc + 3) ls (rest))) : W p l e R s m args below meth c H locs cells slots Q (F0 m pc ls st0) := by
  intro T hT X
  rcases hr T hT X with ⟨v, st₀, t, T', L, h0, X', hL, e1, e2, ⟨⟨u, hv, hp, hb⟩, hF⟩, st⟩ | ⟨q, st₀, t, T', L, E, ce, h0, X', hL, e1, e2, ⟨u, hp, hb, hF⟩, hce, hcv, hcl, st⟩
  · cases hv
    obtain ⟨k1, k2, k3⟩ := vx_keep h0 e1 hS hA hf hL hF
    obtain ⟨t2, a1, b1⟩ := kk u t T'.heap (locs ++ L) e1.symm (by rw [← e2]; exact X'.warmed.alike) hp hb k1 k2 k3 T' rfl X'
    exact ⟨t2, st t2 a1, b1⟩
  · obtain ⟨k1, k2, k3⟩ := vx_keep h0 e1 hS hAX hf hL hF
    obtain ⟨t2, a1, b1⟩ := kx E ce q u t T'.heap (locs ++ L) e1.symm (by rw [← e2]; exact X'.warmed.alike) hp hb k1 k2 k3 (by rw [e1]; exact hce) hcv hcl T' rfl X'
    exact ⟨t2, st.trans a1, b1⟩
/-- caught by the row x of this method's table; the rows ahead don't take it -/
theorem vx_catch {own name : String} {E : String} {ce : Cell} {q : Addr} (hown : s.vm.findClass own = some m.cls) (pre : List ExceptionTableEntry) (x : ExceptionTableEntry) (suf : List ExceptionTableEntry) (hsplit : c.exceptionTable.toList = pre ++ x :: suf)
    (hpass : ∀ z ∈ pre, covers z pc = false ∨ (z.catchType ≠ 0 ∧ ∃ nm : String, (Cond.classLink own z.catchType nm).before args s = true ∧ va_Nc E nm s)) (hx : covers x pc = true) (h0 : x.catchType ≠ 0)
    (hlink : (Cond.classLink own x.catchType name).before args s = true) (hcast : (Cond.castable E name).before args s = true) (hcell : H[q]? = some ce) (hv : ce.vm = .none) (hcl : s.vm.findClass E = some ce.cls)
    (kk : W p l e R s m args below meth c H locs cells slots Q (F0 m x.handlerPc ls [.ref q])) : vx_W p l e R s m args below meth c H locs cells slots Q (F0 m pc ls rest) q := by
  intro T hT X
  have hpl : e.platform.magicAccessors = ({} : Platform).magicAccessors := by rw [X.admits.platform]
  obtain ⟨c3, c4, hc3, hc4, hasg⟩ := Cond.castable_spec hcast
  cases Option.some.inj (hc3.symm.trans hcl)
  obtain ⟨c5, hc5, hcl5⟩ := Cond.classLink_spec hown hlink e.platform hpl
  cases Option.some.inj (hc4.symm.trans hc5)
  obtain ⟨vm', X', st⟩ := X.thenCaughtThrough q (g := F0 m pc ls rest) rfl (Steps.refl _) (by rw [hT]; exact hcell) (by rw [hv]; rfl) (by obtain ⟨k9, h9, -⟩ := Vm.findClass_spec hcl; exact ⟨k9, h9⟩) pre x suf hsplit
    (fun z hz => by
      rcases hpass z hz with h | ⟨hz0, nm, hl1, hn1⟩
      · exact Or.inl h
      · obtain ⟨c6, hc6, hcl6⟩ := Cond.classLink_spec hown hl1 e.platform hpl
        obtain ⟨a8, b8, h1, h2, h3⟩ := hn1
        cases Option.some.inj (h1.symm.trans hcl)
        cases Option.some.inj (h2.symm.trans hc6)
        exact Or.inr ⟨hz0, _, hcl6, h3⟩) hx (Or.inr ⟨h0, c4, hcl5, hasg⟩)
  obtain ⟨t, a1, b1⟩ := kk (T.setVm vm') hT X'
  exact ⟨t, st.trans a1, b1⟩
end Rows
section Ends
variable {p : Program} {l : Launch} {e : Env} {R : Room} {s : State} {m : MethodId} {args : Array Value} {below : List Frame} {meth : Method} {c : Code} {H : Heap} {locs : List Loc} {cells slots : Nat} {Q : State → Prop}
variable {mc ms : Nat} {free : Addr → Prop} {A0 A1 : Nat → Prop} {H0 : Heap} {a : Array Value} {ls : Array Slot} {st0 rest : List Value}
variable {Qc : Array Value → State → Outcome → State → Prop} {XC : String → State → State → Prop}
/-- what a body that may throw owes at its end -/
def vx_MQ (below : List Frame) (Qc : Array Value → State → Outcome → State → Prop) (XC : String → State → State → Prop) (a : Array Value) (s : State) (mc ms : Nat) (free : Addr → Prop) : State → Prop := fun t =>
  ∃ o, t.status = .running ∧ Ended t below o ∧ vx_Q Qc XC mc ms free a s o t
theorem vx_ret {g : JFrame} {mc ms : Nat} (k : W p l e R s m args below meth c H locs cells slots (MQ below Qc args s mc ms free) g) : W p l e R s m args below meth c H locs cells slots (vx_MQ below Qc XC args s mc ms free) g := by
  intro T hT X
  obtain ⟨t, a1, o, b1, b2, b3, b4⟩ := k T hT X
  exact ⟨t, a1, o, b1, b2, Or.inl ⟨b3, b4⟩⟩
/-- not caught here: it goes on to the caller -/
theorem vx_widen {g : JFrame} {q : Addr} {k n : Nat} (h1 : cells ≤ k) (h2 : slots ≤ n) (kk : vx_W p l e R s m args below meth c H locs k n Q g q) : vx_W p l e R s m args below meth c H locs cells slots Q g q := fun T hT X => kk T hT (stand_widen X h1 h2)
theorem vx_out {pc : Nat} {E : String} {ce : Cell} {q : Addr} {mc ms : Nat} (hout : ∀ x ∈ c.exceptionTable.toList, covers x pc = false) (hlocks : meth.locks = false) (hcell : H[q]? = some ce) (hv : ce.vm = .none) (hcl : s.vm.findClass E = some ce.cls)
    (hx : ∀ t : State, t.heap = H → s.vm.Alike t.vm → XC E s t) (hf : ∀ z ∈ locs, free z.base) (hc : cells ≤ mc) (hs : slots ≤ ms) :
    vx_W p l e R s m args below meth c H locs cells slots (vx_MQ below Qc XC args s mc ms free) (F0 m pc ls rest) q := by
  intro T hT X
  obtain ⟨st1, hrun, hend, hW, hsm⟩ := X.leaveThrown q (g := F0 m pc ls rest) rfl rfl rfl hout hlocks
  have hcell9 : (T.setFrames (.throwing q :: below)).heap[q]? = some ce := by
    show T.heap[q]? = some ce
    rw [hT]; exact hcell
  exact ⟨_, st1, .threw q, hrun, hend, Or.inr ⟨q, rfl, E, ce, locs, hx _ hT hW.alike, hcell9, hv, hcl, hW, hsm.mono hc hs, hf⟩⟩
theorem vx_frame {U : State} {k n : Nat} (h : s.sameButNew ({ U with vm := s.vm } : State) locs k n) : s.heap.size ≤ U.heap.size ∧ ∀ q : Nat, q < s.heap.size → (∀ z ∈ locs, z.base ≠ q) → U.heap[q]? = s.heap[q]? := by
  obtain ⟨-, h2, -, -, -, h6⟩ := h
  refine ⟨h2, fun q hq hz => ?_⟩
  obtain ⟨c9, e1, e2, e3, e4⟩ := h6 q _ (Array.getElem?_eq_getElem hq)
  have hs : c9.slots = (s.heap[q]).slots := Array.ext_getElem? fun i => e4 i fun hm => hz _ hm rfl
  have h9 : c9 = s.heap[q] := by
    rw [hs] at e2
    exact e2
  have e5 : U.heap[q]? = some c9 := e1
  rw [e5, h9, Array.getElem?_eq_getElem hq]
/-- the words of a throw but the four that speak of the heap -/
def vx_no (w : Cond) : Bool := decide (w ≠ .isRef (.static Bundle.tN "UNASSIGNED_STACK" Bundle.steD)) && decide (w ≠ .isRef (.static Bundle.tN "SUPPRESSED_SENTINEL" Bundle.listD)) && decide (w ≠ .laysStatic Bundle.tN "UNASSIGNED_STACK" Bundle.steD) && decide (w ≠ .laysStatic Bundle.tN "SUPPRESSED_SENTINEL" Bundle.listD)
def vx_at0 (own : String) (ic : Nat) (X : String) (names : List String) : List Cond := (Bundle.ownAtoms0 own ic X names).filter vx_no
def vx_atS (own : String) (ic : Nat) (X : String) (names : List String) : List Cond := (Bundle.ownAtoms own ic X names).filter vx_no
/-- a word that the tables alone decide, or a good one -/
def vx_ot (w : Cond) : Bool := w.onTables || goodWord w
theorem vx_ot_at {args a' : Array Value} {s U : State} {w : Cond} (hW : s.WarmedH U.vm) (hvm : s.vm = U.vm) (hg : vx_ot w = true) (h : w.before args s = true) : w.before a' U = true := by
  simp only [vx_ot, Bool.or_eq_true] at hg
  rcases hg with hg | hg
  · exact va_tabs hg hvm h
  · exact word_at hW (good_of_word hg) h
/-- a list's words: the good ones out of the method's own list, the others by premises of their own -/
theorem vx_hat {args : Array Value} {s : State} {L B : List Cond} (h1 : ∀ w ∈ L.filter goodWord, w.before args s = true) (h2 : ∀ w ∈ L.filter (fun w => !goodWord w), w ∈ B) (h3 : ∀ w ∈ B, w.before args s = true) : ∀ w ∈ L, w.before args s = true := by
  intro w hw
  by_cases g : goodWord w = true
  · exact h1 w (List.mem_filter.mpr ⟨hw, g⟩)
  · refine h3 w (h2 w (List.mem_filter.mpr ⟨hw, ?_⟩))
    show (!goodWord w) = true
    cases hgw : goodWord w
    · rfl
    · exact absurd hgw g
theorem vx_c {args : Array Value} {s : State} {w : Cond} {B : List Cond} (h : w.before args s = true) (t : ∀ w ∈ B, w.before args s = true) : ∀ w' ∈ w :: B, w'.before args s = true := fun w' h' => (List.mem_cons.mp h').elim (fun e => by rw [e]; exact h) (t w')
theorem vx_n {args : Array Value} {s : State} : ∀ w ∈ ([] : List Cond), w.before args s = true := fun _ h => nomatch h
theorem vx_own {args : Array Value} {s : State} {L : List Cond} (h1 : ∀ w ∈ L.filter vx_no, w.before args s = true)
    (hU : (Cond.isRef (.static Bundle.tN "UNASSIGNED_STACK" Bundle.steD)).before args s = true) (hN : (Cond.isRef (.static Bundle.tN "SUPPRESSED_SENTINEL" Bundle.listD)).before args s = true)
    (lU : (Cond.laysStatic Bundle.tN "UNASSIGNED_STACK" Bundle.steD).before args s = true) (lN : (Cond.laysStatic Bundle.tN "SUPPRESSED_SENTINEL" Bundle.listD).before args s = true) : ∀ w ∈ L, w.before args s = true := by
  intro w hw
  by_cases e1 : w = .isRef (.static Bundle.tN "UNASSIGNED_STACK" Bundle.steD)
  · rw [e1]; exact hU
  · by_cases e2 : w = .isRef (.static Bundle.tN "SUPPRESSED_SENTINEL" Bundle.listD)
    · rw [e2]; exact hN
    · by_cases e3 : w = .laysStatic Bundle.tN "UNASSIGNED_STACK" Bundle.steD
      · rw [e3]; exact lU
      · by_cases e4 : w = .laysStatic Bundle.tN "SUPPRESSED_SENTINEL" Bundle.listD
        · rw [e4]; exact lN
        · exact h1 w (List.mem_filter.mpr ⟨hw, by unfold vx_no; rw [decide_eq_true e1, decide_eq_true e2, decide_eq_true e3, decide_eq_true e4]; rfl⟩)
/-- where a static field lies, its class's statics cell in H -/
def vx_L (C n d : String) (A : Nat → Prop) (U : State) (H : Heap) : Prop := ∃ (c : ClassId) (k : Class) (i : Nat) (f : Field) (a : Nat) (cell : Cell), U.vm.findClass C = some c ∧ U.fieldFound? C n d = some (c, k, i, f) ∧ f.isStatic = true ∧ k.statics = some a ∧ H[a]? = some cell ∧ cell.vm.isStatics = true ∧ cell.cls = c ∧ f.slot < cell.slots.size ∧ k.staticTypes[f.slot]? = some f.type ∧ ¬ A a
theorem vx_L.moved {C n d : String} {A : Nat → Prop} {u U : State} {H : Heap} (hvm : u.vm.Alike U.vm) (h : vx_L C n d A u H) : vx_L C n d A U H := by
  obtain ⟨c, k, i, f, a, cell, h1, h2, h3, h4, h5, h6, h7, h8, h9, h10⟩ := h
  obtain ⟨k', hi', he⟩ := State.fieldFound?_setVm hvm h2
  exact ⟨c, k', i, f, a, cell, by rw [hvm.findClass]; exact h1, hi', h3, by rw [he]; exact h4, h5, h6, h7, h8, by rw [he]; exact h9, h10⟩
theorem vx_L.kept {C n d : String} {A : Nat → Prop} {U : State} {H H1 : Heap} (h : vx_L C n d A U H) (hq : ∀ a : Nat, a < H.size → ¬ A a → H1[a]? = H[a]?) : vx_L C n d A U H1 := by
  obtain ⟨c, k, i, f, a, cell, h1, h2, h3, h4, h5, h6, h7, h8, h9, h10⟩ := h
  exact ⟨c, k, i, f, a, cell, h1, h2, h3, h4, by rw [hq a (Array.getElem?_eq_some_iff.mp h5).1 h10]; exact h5, h6, h7, h8, h9, h10⟩
theorem vx_L.narrow {C n d : String} {A B : Nat → Prop} {U : State} {H : Heap} (h : vx_L C n d A U H) (hAB : ∀ q, B q → A q) : vx_L C n d B U H := by
  obtain ⟨c, k, i, f, a, cell, h1, h2, h3, h4, h5, h6, h7, h8, h9, h10⟩ := h
  exact ⟨c, k, i, f, a, cell, h1, h2, h3, h4, h5, h6, h7, h8, h9, fun z => h10 (hAB _ z)⟩
theorem vx_L.word {C n d : String} {A : Nat → Prop} {s : State} {args : Array Value} (h : vx_L C n d A s s.heap) : (Cond.laysStatic C n d).before args s = true := by
  obtain ⟨c, k, i, f, a, cell, h1, h2, h3, h4, h5, h6, h7, h8, h9, -⟩ := h
  show (Cond.laysStatic C n d).holds args s none s [] = true
  exact Cond.laysStatic_of h1 h2 h3 h4 h5 h6 h7 h8 h9
/-- .. and what it holds: null or some reference -/
def vx_Zq (C n d : String) (A : Nat → Prop) (U : State) (H : Heap) : Prop := va_Zq C n d A U H ∧ vx_L C n d A U H
theorem vx_Zq.moved {C n d : String} {A : Nat → Prop} {u U : State} {H : Heap} (hvm : u.vm.Alike U.vm) (h : vx_Zq C n d A u H) : vx_Zq C n d A U H := ⟨va_Zq.moved hvm h.1, vx_L.moved hvm h.2⟩
theorem vx_Zq.kept {C n d : String} {A : Nat → Prop} {U : State} {H H1 : Heap} (h : vx_Zq C n d A U H) (hq : ∀ a : Nat, a < H.size → ¬ A a → H1[a]? = H[a]?) : vx_Zq C n d A U H1 := ⟨va_Zq.kept h.1 hq, vx_L.kept h.2 hq⟩
theorem vx_Zq.narrow {C n d : String} {A B : Nat → Prop} {U : State} {H : Heap} (h : vx_Zq C n d A U H) (hAB : ∀ q, B q → A q) : vx_Zq C n d B U H := ⟨va_Zq.narrow h.1 hAB, vx_L.narrow h.2 hAB⟩
theorem vx_Zqof {args : Array Value} {s : State} {C n d : String} {A : Nat → Prop} (hl : (Cond.laysStatic C n d).before args s = true) (hini : (Cond.initialized C).before args s = true) (h : (Cond.isRef (.static C n d)).before args s = true) (hA : ∀ a : Nat, a < s.heap.size → ¬ A a) : vx_Zq C n d A s s.heap := by
  refine ⟨va_Zqof hl hini h hA, ?_⟩
  obtain ⟨c, k, i, f, a, cell, h1, h2, h3, h4, h5, h6, h7, h8, h9⟩ := Cond.laysStatic_spec hl
  exact ⟨c, k, i, f, a, cell, h1, h2, h3, h4, h5, h6, h7, h8, h9, hA a (Array.getElem?_eq_some_iff.mp h5).1⟩
theorem vx_isRef {C n d : String} {v : Value} {A : Nat → Prop} {s : State} {args : Array Value} (h : va_Z C n d v A s s.heap) (hv : v.isRef = true) : (Cond.isRef (.static C n d)).before args s = true := by
  obtain ⟨cf, kf, fi, f, a, cell, h1, h2, h3, h4, h5, h6, h7, -⟩ := h
  have he : (Term.static C n d).eval args s none [] s = some v := by
    simp [Term.eval, State.fieldNamed?, h1, h2, h4, h5, h6, h7]
  simp only [Cond.before, Cond.holds, Cond.value, he]
  cases v <;> simp_all [Value.isRef]
theorem vx_isRefq {C n d : String} {A : Nat → Prop} {s : State} {args : Array Value} (h : va_Zq C n d A s s.heap) : (Cond.isRef (.static C n d)).before args s = true := by
  rcases h with h | ⟨t, h⟩
  · exact vx_isRef h rfl
  · exact vx_isRef h rfl
/-- the same frame, seen from here: as if the method were called anew in this heap -/
theorem vx_rebase {T : State} (X : Stand p l e R s m args below meth c T locs cells slots) {R' : Room} (hf : R'.frames ≤ R.frames) (hl : R'.locals ≤ R.locals) (hc : cells + R'.cells ≤ R.cells) (hs : slots + R'.slots ≤ R.slots) :
    Stand p l e R' ((T.setVm s.vm).setFrames (.invoking m args :: below)) m args below meth c T [] 0 0 := by
  have htop : (T.setVm s.vm).topJava?.isSome := X.here.top
  have hF : ((T.setVm s.vm).setFrames (.invoking m args :: below)).frames = .invoking m args :: below := State.frames_setFrames _ (State.cur_lt_of_top htop)
  obtain ⟨g₀, hg0⟩ := Option.isSome_iff_exists.mp htop
  obtain ⟨r, hr⟩ := State.topJava?_eq_some.mp hg0
  have hl9 : e.platform.stackLimits (T.setVm s.vm).me = e.platform.stackLimits s.me := X.limits
  have hb9 : (T.setVm s.vm).me.stackBytes = s.me.stackBytes := X.bytes
  refine ⟨X.admits, X.cas, X.clock, hF, ?_, X.hears, X.method, X.code, X.here, X.tail, X.warmed, ?_, ?_, ?_⟩
  · have h := X.room
    have hU : ((T.setVm s.vm).setFrames (.invoking m args :: below)).localsInUse = s.localsInUse := by
      rw [State.localsInUse_invoking hF (meth := meth) (c := c) X.method X.code, State.localsInUse_invoking X.frames X.method X.code]
    simp only [State.hasRoom, Bool.and_eq_true, decide_eq_true_eq] at h ⊢
    obtain ⟨⟨⟨⟨h1, h2, h3, h4, h5, h6⟩, h7⟩, h8⟩, h9⟩ := h
    rw [X.frames, List.length_cons] at h2 h3
    have q1 := X.heapSize
    have q2 := X.used
    simp only [hF, hU, List.length_cons, State.stackLimits_setFrames, State.stackBytes_setFrames, hl9, hb9]
    refine ⟨⟨⟨⟨by omega, by omega, by omega, by omega, by omega, h6⟩, ?_⟩, ?_⟩, X.book⟩
    · show T.heap.size + R'.cells ≤ e.platform.maxCells
      omega
    · show T.slotsUsed + R'.slots ≤ e.platform.maxSlots
      omega
  · rw [State.stackLimits_setFrames]; rfl
  · rw [State.stackBytes_setFrames]; rfl
  · refine ⟨?_, Nat.le_refl _, Nat.le_refl _, ?_, ?_, fun a c9 h9 => ⟨c9, h9, rfl, rfl, fun _ _ => rfl⟩⟩
    · obtain ⟨t, ht, -⟩ := State.frames_cons hr
      show T.setVm s.vm = { ((T.setVm s.vm).setFrames (.invoking m args :: below)).setFrames (T.setVm s.vm).frames with heap := T.heap, slotsUsed := T.slotsUsed }
      rw [State.setFrames_setFrames, State.setFrames_self ht]
      rfl
    · show T.slotsUsed = T.slotsUsed + ((T.heap.toList.drop T.heap.size).map (·.slots.size)).sum
      rw [List.drop_eq_nil_of_le (Nat.le_of_eq Array.length_toList)]
      rfl
    · show ((T.heap.toList.drop T.heap.size).map (·.slots.size)).sum ≤ 0
      rw [List.drop_eq_nil_of_le (Nat.le_of_eq Array.length_toList)]
      exact Nat.le_refl _
/-- 'throw new E()': new; dup; invokespecial; athrow -/
theorem vx_throw0 {cc : ByteArray} {pc : Nat} (hexec : p.tables.exec = Jvm.exec) (hb : c.code = cc) (hl : l.stackTraces = false) {own cls : String} {names : List String} {ik ic mc ms : Nat} {A : Nat → Prop}
    (hown : s.vm.findClass own = some m.cls) (hcls : Bundle.fit cls = true) (hnames : ∀ n ∈ names, Bundle.fit n = true)
    (hk : (Cond.classLink own ik cls).before args s = true) (hini : (Cond.initialized cls).before args s = true) (hat : ∀ w ∈ vx_at0 own ic cls names, w.before args s = true)
    (hgood : ∀ w ∈ Cond.classLink own ik cls :: Cond.initialized cls :: vx_at0 own ic cls names, vx_ot w = true)
    (hU : vx_Zq Bundle.tN "UNASSIGNED_STACK" Bundle.steD A s s.heap) (hN : vx_Zq Bundle.tN "SUPPRESSED_SENTINEL" Bundle.listD A s s.heap) (hS : va_S A s.heap H locs) (hsize : ls.size = c.maxLocals)
    (d0 : decode cc pc = .ok (.new ik, 3)) (d3 : decode cc (pc + 3) = .ok (.dup, 1)) (d4 : decode cc (pc + 4) = .ok (.invokespecial ic, 3)) (d7 : decode cc (pc + 7) = .ok (.athrow, 1))
    (hout : ∀ x ∈ c.exceptionTable.toList, covers x (pc + 7) = false)
    (hRframes : names.length + 3 < R.frames) (hRlocals : (rest.map fun v => v.category).sum + (13 * (names.length + 1) + 42) ≤ R.locals) (hRcells : cells + 1 ≤ R.cells) (hRslots : slots + 6 ≤ R.slots) (hlocks : meth.locks = false)
    (hx : ∀ t : State, s.vm.Alike t.vm → H.size ≤ t.heap.size → (∀ q : Nat, q < H.size → t.heap[q]? = H[q]?) → XC cls s t)
    (hf : ∀ z ∈ locs, free z.base) (hc : cells + 1 ≤ mc) (hs : slots + 6 ≤ ms) :
    W p l e R s m args below meth c H locs cells slots (vx_MQ below Qc XC args s mc ms free) (F0 m pc ls rest) := by
  intro T hT X
  have htr : e.platform.stackTraces = false := (show e.platform.stackTraces = l.stackTraces by rw [X.admits.platform]).trans hl
  have Y := vx_rebase X (R' := { frames := R.frames, locals := R.locals, cells := 1, slots := 6 }) (Nat.le_refl _) (Nat.le_refl _) hRcells hRslots
  obtain ⟨s', hA⟩ : ∃ z, z = (T.setVm s.vm).setFrames (.invoking m args :: below) := ⟨_, rfl⟩
  rw [← hA] at Y
  have hvm : s'.vm = s.vm := by rw [hA]; rfl
  have hhp : s'.heap = H := by rw [hA]; exact hT
  have hW0 : s.WarmedH s'.vm := by rw [hvm]; exact State.WarmedH.refl s
  have hat' : ∀ w ∈ vx_at0 own ic cls names, w.before args s' = true := fun w hw => vx_ot_at hW0 hvm.symm (hgood w (List.mem_cons_of_mem _ (List.mem_cons_of_mem _ hw))) (hat w hw)
  have hk' : (Cond.classLink own ik cls).before args s' = true := vx_ot_at hW0 hvm.symm (hgood _ List.mem_cons_self) hk
  have hini' : (Cond.initialized cls).before args s' = true := vx_ot_at hW0 hvm.symm (hgood _ (List.mem_cons_of_mem _ List.mem_cons_self)) hini
  have hU' : vx_Zq Bundle.tN "UNASSIGNED_STACK" Bundle.steD A s' s'.heap := by rw [hhp]; exact vx_Zq.moved hW0.alike (hU.kept hS.2.1)
  have hN' : vx_Zq Bundle.tN "SUPPRESSED_SENTINEL" Bundle.listD A s' s'.heap := by rw [hhp]; exact vx_Zq.moved hW0.alike (hN.kept hS.2.1)
  have h : ∀ w ∈ Bundle.ownAtoms0 own ic cls names, w.before args s' = true := vx_own hat' (vx_isRefq hU'.1) (vx_isRefq hN'.1) hU'.2.word hN'.2.word
  have hown' : s'.vm.findClass own = some m.cls := by rw [hvm]; exact hown
  have hins : (Cond.instantiable cls 6).before args s' = true := h _ (by simp [Bundle.ownAtoms0])
  obtain ⟨vm₁, cX, kX, hfX, hkX, -, -, X₁, st1⟩ := Y.newCold hexec (own := own) (C := cls) (index := ik) (n := 6) hown' hk' hins hini'
    (g := F0 m pc ls rest) rfl (by rw [hb]; exact d0) (Nat.le_refl _) (Nat.le_refl _)
  generalize hT1 : (T.setVm vm₁).pushCell { cls := cX, slots := kX.instanceTypes.map defaultValue, vm := .none } = T1 at X₁ st1
  have hcat : (Value.ref T.heap.size).category = 1 := rfl
  have hcellA : T1.heap[T.heap.size]? = some (freshCell cX kX) := by rw [← hT1]; exact State.heap_pushCell_size _ _
  have d3' : decode c.code (pc + 3) = .ok (.dup, 1) := by rw [hb]; exact d3
  obtain ⟨U, hsteps, hrun, hend, hW, hsame, ce, hce, hO⟩ := X₁.ctorThrow0 hexec htr (own := own) (cls := cls) (names := names) (ic := ic) hown' hcls hnames h (fun x hx => nomatch hx) hfX hkX hcellA (by rw [hhp, hT]; exact Nat.le_refl _)
    (g := { method := m, pc := pc + 4, locals := ls, stack := .ref T.heap.size :: .ref T.heap.size :: rest, locked := none }) rfl hsize rfl rfl (rest := rest) rfl
    (by rw [hb]; exact d4) (by rw [hb]; exact d7) hout hRframes (by simp only [List.map_cons, List.sum_cons, hcat]; omega) hlocks
  obtain ⟨f1, f2⟩ := vx_frame hsame
  rw [hhp] at f1 f2
  have hWs : s.WarmedH U.vm := State.WarmedH.trans hW0 hW
  have hcl : s.vm.findClass cls = some ce.cls := by
    have h9 := hO.cls
    rw [hvm] at h9
    exact h9
  have hall : s.sameButNew ({ U with vm := s.vm } : State) locs mc ms := by
    subst hA
    obtain ⟨e1, e2⟩ := hsame
    rw [State.setFrames_setFrames] at e1
    have h2 : (T.setVm s.vm).sameButNew ({ U with vm := s.vm } : State) [] (0 + 1) (0 + 6) := ⟨e1, e2⟩
    have h3 := X.same.trans h2
    rw [List.append_nil] at h3
    exact h3.mono hc hs
  refine ⟨U, ?_, .threw T.heap.size, hrun, hend, Or.inr ⟨T.heap.size, rfl, cls, ce, locs, hx U hWs.alike f1 (fun q hq => f2 q hq (fun z hz => nomatch hz)), hce, hO.vm, hcl, hWs, hall, hf⟩⟩
  refine st1 _ ?_
  show Steps p.tables e below (T1.setTop { method := m, pc := pc + 3, locals := ls, stack := .ref T.heap.size :: rest, locked := none }) _
  jvm_step X₁.here [X₁.here.top, hexec, d3', Value.category]
  exact hsteps
/-- 'throw new E("text")': new; dup; ldc; invokespecial; athrow -/
theorem vx_throwS {cc : ByteArray} {pc : Nat} (hexec : p.tables.exec = Jvm.exec) (hb : c.code = cc) (hl : l.stackTraces = false) {own cls text : String} {names : List String} {ik is ic mc ms sa : Nat} {A : Nat → Prop}
    (hown : s.vm.findClass own = some m.cls) (hcls : Bundle.fit cls = true) (hnames : ∀ n ∈ names, Bundle.fit n = true)
    (hk : (Cond.classLink own ik cls).before args s = true) (hini : (Cond.initialized cls).before args s = true) (hstr : vk_R own is text sa s) (hat : ∀ w ∈ vx_atS own ic cls names, w.before args s = true)
    (hgood : ∀ w ∈ Cond.classLink own ik cls :: Cond.initialized cls :: vx_atS own ic cls names, vx_ot w = true)
    (hU : vx_Zq Bundle.tN "UNASSIGNED_STACK" Bundle.steD A s s.heap) (hN : vx_Zq Bundle.tN "SUPPRESSED_SENTINEL" Bundle.listD A s s.heap) (hS : va_S A s.heap H locs) (hsize : ls.size = c.maxLocals)
    (d0 : decode cc pc = .ok (.new ik, 3)) (d3 : decode cc (pc + 3) = .ok (.dup, 1)) (d4 : decode cc (pc + 4) = .ok (.ldc is, 2)) (d6 : decode cc (pc + 6) = .ok (.invokespecial ic, 3)) (d9 : decode cc (pc + 9) = .ok (.athrow, 1))
    (hout : ∀ x ∈ c.exceptionTable.toList, covers x (pc + 9) = false)
    (hRframes : names.length + 3 < R.frames) (hRlocals : (rest.map fun v => v.category).sum + (13 * (names.length + 1) + 43) ≤ R.locals) (hRcells : cells + 1 ≤ R.cells) (hRslots : slots + 6 ≤ R.slots) (hlocks : meth.locks = false)
    (hx : ∀ t : State, s.vm.Alike t.vm → H.size ≤ t.heap.size → (∀ q : Nat, q < H.size → t.heap[q]? = H[q]?) → XC cls s t)
    (hf : ∀ z ∈ locs, free z.base) (hc : cells + 1 ≤ mc) (hs : slots + 6 ≤ ms) :
    W p l e R s m args below meth c H locs cells slots (vx_MQ below Qc XC args s mc ms free) (F0 m pc ls rest) := by
  intro T hT X
  have htr : e.platform.stackTraces = false := (show e.platform.stackTraces = l.stackTraces by rw [X.admits.platform]).trans hl
  have Y := vx_rebase X (R' := { frames := R.frames, locals := R.locals, cells := 1, slots := 6 }) (Nat.le_refl _) (Nat.le_refl _) hRcells hRslots
  obtain ⟨s', hA⟩ : ∃ z, z = (T.setVm s.vm).setFrames (.invoking m args :: below) := ⟨_, rfl⟩
  rw [← hA] at Y
  have hvm : s'.vm = s.vm := by rw [hA]; rfl
  have hhp : s'.heap = H := by rw [hA]; exact hT
  have hW0 : s.WarmedH s'.vm := by rw [hvm]; exact State.WarmedH.refl s
  have hat' : ∀ w ∈ vx_atS own ic cls names, w.before args s' = true := fun w hw => vx_ot_at hW0 hvm.symm (hgood w (List.mem_cons_of_mem _ (List.mem_cons_of_mem _ hw))) (hat w hw)
  have hk' : (Cond.classLink own ik cls).before args s' = true := vx_ot_at hW0 hvm.symm (hgood _ List.mem_cons_self) hk
  have hini' : (Cond.initialized cls).before args s' = true := vx_ot_at hW0 hvm.symm (hgood _ (List.mem_cons_of_mem _ List.mem_cons_self)) hini
  have hU' : vx_Zq Bundle.tN "UNASSIGNED_STACK" Bundle.steD A s' s'.heap := by rw [hhp]; exact vx_Zq.moved hW0.alike (hU.kept hS.2.1)
  have hN' : vx_Zq Bundle.tN "SUPPRESSED_SENTINEL" Bundle.listD A s' s'.heap := by rw [hhp]; exact vx_Zq.moved hW0.alike (hN.kept hS.2.1)
  have h : ∀ w ∈ Bundle.ownAtoms own ic cls names, w.before args s' = true := vx_own hat' (vx_isRefq hU'.1) (vx_isRefq hN'.1) hU'.2.word hN'.2.word
  have hown' : s'.vm.findClass own = some m.cls := by rw [hvm]; exact hown
  have hins : (Cond.instantiable cls 6).before args s' = true := h _ (by simp [Bundle.ownAtoms])
  obtain ⟨vm₁, cX, kX, hfX, hkX, -, -, X₁, st1⟩ := Y.newCold hexec (own := own) (C := cls) (index := ik) (n := 6) hown' hk' hins hini'
    (g := F0 m pc ls rest) rfl (by rw [hb]; exact d0) (Nat.le_refl _) (Nat.le_refl _)
  generalize hT1 : (T.setVm vm₁).pushCell { cls := cX, slots := kX.instanceTypes.map defaultValue, vm := .none } = T1 at X₁ st1
  have hcat : (Value.ref T.heap.size).category = 1 := rfl
  have hcellA : T1.heap[T.heap.size]? = some (freshCell cX kX) := by rw [← hT1]; exact State.heap_pushCell_size _ _
  have d3' : decode c.code (pc + 3) = .ok (.dup, 1) := by rw [hb]; exact d3
  have d4' : decode c.code (pc + 4) = .ok (.ldc is, 2) := by rw [hb]; exact d4
  have hstr' : vk_R own is text sa s' := vk_R.warm hW0 hstr
  obtain ⟨U, hsteps, hrun, hend, hW, hsame, ce, hce, hO⟩ := X₁.ctorThrowS hexec htr (own := own) (cls := cls) (names := names) (ic := ic) hown' hcls hnames h (fun x hx => nomatch hx) hfX hkX hcellA (by rw [hhp, hT]; exact Nat.le_refl _) (msg := .ref sa) rfl
    (g := { method := m, pc := pc + 6, locals := ls, stack := .ref sa :: .ref T.heap.size :: .ref T.heap.size :: rest, locked := none }) rfl hsize rfl rfl (rest := rest) rfl
    (by rw [hb]; exact d6) (by rw [hb]; exact d9) hout hRframes (by simp only [List.map_cons, List.sum_cons, hcat]; omega) hlocks
  obtain ⟨f1, f2⟩ := vx_frame hsame
  rw [hhp] at f1 f2
  have hWs : s.WarmedH U.vm := State.WarmedH.trans hW0 hW
  have hcl : s.vm.findClass cls = some ce.cls := by
    have h9 := hO.cls
    rw [hvm] at h9
    exact h9
  have hall : s.sameButNew ({ U with vm := s.vm } : State) locs mc ms := by
    subst hA
    obtain ⟨e1, e2⟩ := hsame
    rw [State.setFrames_setFrames] at e1
    have h2 : (T.setVm s.vm).sameButNew ({ U with vm := s.vm } : State) [] (0 + 1) (0 + 6) := ⟨e1, e2⟩
    have h3 := X.same.trans h2
    rw [List.append_nil] at h3
    exact h3.mono hc hs
  refine ⟨U, ?_, .threw T.heap.size, hrun, hend, Or.inr ⟨T.heap.size, rfl, cls, ce, locs, hx U hWs.alike f1 (fun q hq => f2 q hq (fun z hz => nomatch hz)), hce, hO.vm, hcl, hWs, hall, hf⟩⟩
  refine st1 _ ?_
  show Steps p.tables e below (T1.setTop { method := m, pc := pc + 3, locals := ls, stack := .ref T.heap.size :: rest, locked := none }) _
  jvm_step X₁.here [X₁.here.top, hexec, d3', Value.category]
  exact X₁.ldcString hexec (own := own) (text := text) (index := is) (a := sa) hown' hstr'.1 hstr'.2
    (g := { method := m, pc := pc + 4, locals := ls, stack := .ref T.heap.size :: .ref T.heap.size :: rest, locked := none }) rfl d4' _ hsteps
/-- 'throw new E("text")', the text by a wide index -/
theorem vx_throwSW {cc : ByteArray} {pc : Nat} (hexec : p.tables.exec = Jvm.exec) (hb : c.code = cc) (hl : l.stackTraces = false) {own cls text : String} {names : List String} {ik is ic mc ms sa : Nat} {A : Nat → Prop}
    (hown : s.vm.findClass own = some m.cls) (hcls : Bundle.fit cls = true) (hnames : ∀ n ∈ names, Bundle.fit n = true)
    (hk : (Cond.classLink own ik cls).before args s = true) (hini : (Cond.initialized cls).before args s = true) (hstr : vk_R own is text sa s) (hat : ∀ w ∈ vx_atS own ic cls names, w.before args s = true)
    (hgood : ∀ w ∈ Cond.classLink own ik cls :: Cond.initialized cls :: vx_atS own ic cls names, vx_ot w = true)
    (hU : vx_Zq Bundle.tN "UNASSIGNED_STACK" Bundle.steD A s s.heap) (hN : vx_Zq Bundle.tN "SUPPRESSED_SENTINEL" Bundle.listD A s s.heap) (hS : va_S A s.heap H locs) (hsize : ls.size = c.maxLocals)
    (d0 : decode cc pc = .ok (.new ik, 3)) (d3 : decode cc (pc + 3) = .ok (.dup, 1)) (d4 : decode cc (pc + 4) = .ok (.ldc_w is, 3)) (d7 : decode cc (pc + 7) = .ok (.invokespecial ic, 3)) (d10 : decode cc (pc + 10) = .ok (.athrow, 1))
    (hout : ∀ x ∈ c.exceptionTable.toList, covers x (pc + 10) = false)
    (hRframes : names.length + 3 < R.frames) (hRlocals : (rest.map fun v => v.category).sum + (13 * (names.length + 1) + 43) ≤ R.locals) (hRcells : cells + 1 ≤ R.cells) (hRslots : slots + 6 ≤ R.slots) (hlocks : meth.locks = false)
    (hx : ∀ t : State, s.vm.Alike t.vm → H.size ≤ t.heap.size → (∀ q : Nat, q < H.size → t.heap[q]? = H[q]?) → XC cls s t)
    (hf : ∀ z ∈ locs, free z.base) (hc : cells + 1 ≤ mc) (hs : slots + 6 ≤ ms) :
    W p l e R s m args below meth c H locs cells slots (vx_MQ below Qc XC args s mc ms free) (F0 m pc ls rest) := by
  intro T hT X
  have htr : e.platform.stackTraces = false := (show e.platform.stackTraces = l.stackTraces by rw [X.admits.platform]).trans hl
  have Y := vx_rebase X (R' := { frames := R.frames, locals := R.locals, cells := 1, slots := 6 }) (Nat.le_refl _) (Nat.le_refl _) hRcells hRslots
  obtain ⟨s', hA⟩ : ∃ z, z = (T.setVm s.vm).setFrames (.invoking m args :: below) := ⟨_, rfl⟩
  rw [← hA] at Y
  have hvm : s'.vm = s.vm := by rw [hA]; rfl
  have hhp : s'.heap = H := by rw [hA]; exact hT
  have hW0 : s.WarmedH s'.vm := by rw [hvm]; exact State.WarmedH.refl s
  have hat' : ∀ w ∈ vx_atS own ic cls names, w.before args s' = true := fun w hw => vx_ot_at hW0 hvm.symm (hgood w (List.mem_cons_of_mem _ (List.mem_cons_of_mem _ hw))) (hat w hw)
  have hk' : (Cond.classLink own ik cls).before args s' = true := vx_ot_at hW0 hvm.symm (hgood _ List.mem_cons_self) hk
  have hini' : (Cond.initialized cls).before args s' = true := vx_ot_at hW0 hvm.symm (hgood _ (List.mem_cons_of_mem _ List.mem_cons_self)) hini
  have hU' : vx_Zq Bundle.tN "UNASSIGNED_STACK" Bundle.steD A s' s'.heap := by rw [hhp]; exact vx_Zq.moved hW0.alike (hU.kept hS.2.1)
  have hN' : vx_Zq Bundle.tN "SUPPRESSED_SENTINEL" Bundle.listD A s' s'.heap := by rw [hhp]; exact vx_Zq.moved hW0.alike (hN.kept hS.2.1)
  have h : ∀ w ∈ Bundle.ownAtoms own ic cls names, w.before args s' = true := vx_own hat' (vx_isRefq hU'.1) (vx_isRefq hN'.1) hU'.2.word hN'.2.word
  have hown' : s'.vm.findClass own = some m.cls := by rw [hvm]; exact hown
  have hins : (Cond.instantiable cls 6).before args s' = true := h _ (by simp [Bundle.ownAtoms])
  obtain ⟨vm₁, cX, kX, hfX, hkX, -, -, X₁, st1⟩ := Y.newCold hexec (own := own) (C := cls) (index := ik) (n := 6) hown' hk' hins hini'
    (g := F0 m pc ls rest) rfl (by rw [hb]; exact d0) (Nat.le_refl _) (Nat.le_refl _)
  generalize hT1 : (T.setVm vm₁).pushCell { cls := cX, slots := kX.instanceTypes.map defaultValue, vm := .none } = T1 at X₁ st1
  have hcat : (Value.ref T.heap.size).category = 1 := rfl
  have hcellA : T1.heap[T.heap.size]? = some (freshCell cX kX) := by rw [← hT1]; exact State.heap_pushCell_size _ _
  have d3' : decode c.code (pc + 3) = .ok (.dup, 1) := by rw [hb]; exact d3
  have d4' : decode c.code (pc + 4) = .ok (.ldc_w is, 3) := by rw [hb]; exact d4
  have hstr' : vk_R own is text sa s' := vk_R.warm hW0 hstr
  obtain ⟨U, hsteps, hrun, hend, hW, hsame, ce, hce, hO⟩ := X₁.ctorThrowS hexec htr (own := own) (cls := cls) (names := names) (ic := ic) hown' hcls hnames h (fun x hx => nomatch hx) hfX hkX hcellA (by rw [hhp, hT]; exact Nat.le_refl _) (msg := .ref sa) rfl
    (g := { method := m, pc := pc + 7, locals := ls, stack := .ref sa :: .ref T.heap.size :: .ref T.heap.size :: rest, locked := none }) rfl hsize rfl rfl (rest := rest) rfl
    (by rw [hb]; exact d7) (by rw [hb]; exact d10) hout hRframes (by simp only [List.map_cons, List.sum_cons, hcat]; omega) hlocks
  obtain ⟨f1, f2⟩ := vx_frame hsame
  rw [hhp] at f1 f2
  have hWs : s.WarmedH U.vm := State.WarmedH.trans hW0 hW
  have hcl : s.vm.findClass cls = some ce.cls := by
    have h9 := hO.cls
    rw [hvm] at h9
    exact h9
  have hall : s.sameButNew ({ U with vm := s.vm } : State) locs mc ms := by
    subst hA
    obtain ⟨e1, e2⟩ := hsame
    rw [State.setFrames_setFrames] at e1
    have h2 : (T.setVm s.vm).sameButNew ({ U with vm := s.vm } : State) [] (0 + 1) (0 + 6) := ⟨e1, e2⟩
    have h3 := X.same.trans h2
    rw [List.append_nil] at h3
    exact h3.mono hc hs
  refine ⟨U, ?_, .threw T.heap.size, hrun, hend, Or.inr ⟨T.heap.size, rfl, cls, ce, locs, hx U hWs.alike f1 (fun q hq => f2 q hq (fun z hz => nomatch hz)), hce, hO.vm, hcl, hWs, hall, hf⟩⟩
  refine st1 _ ?_
  show Steps p.tables e below (T1.setTop { method := m, pc := pc + 3, locals := ls, stack := .ref T.heap.size :: rest, locked := none }) _
  jvm_step X₁.here [X₁.here.top, hexec, d3', Value.category]
  exact X₁.ldcStringW hexec (own := own) (text := text) (index := is) (a := sa) hown' hstr'.1 hstr'.2
    (g := { method := m, pc := pc + 4, locals := ls, stack := .ref T.heap.size :: .ref T.heap.size :: rest, locked := none }) rfl d4' _ hsteps
end Ends
section Bodies
variable {l : Launch}
theorem vx_ofW {y : MethodName} {ws ws' : List Cond} {rm : Room} {Pc : Array Value → State → Prop} {Qc : Array Value → State → Outcome → State → Prop} {XC : String → State → State → Prop} {mc ms : Nat} {free : Addr → Prop} {cc : ByteArray} {maxL : Nat} {ret : Option FieldType}
    (hy : plainName y.cls = true) (hw : ws = Cond.code y cc maxL ret :: ws')
    (body : ∀ p e s m args below meth c s₁, BodyLoose p l y (headSpec ws rm) cc maxL ret e s m args below meth c s₁ → c.maxLocals = maxL → (∀ x ∈ c.exceptionTable.toList, False) → Pc args s →
      W p l e (headSpec ws rm).room s m args below meth c s.heap [] 0 0 (vx_MQ below Qc XC args s mc ms free) (entryFrame m args maxL)) : vx_Met l y ws rm Pc Qc XC mc ms free := by
  refine MetFree.of_bodyS (code := cc) (maxLocals := maxL) (ret := ret) hy ?_ ?_
  · intro args s m h hn
    obtain ⟨meth, c, h1, h2, h3, h4, h5, h6, -, -⟩ := Cond.code_spec hn (atoms_spec (ws := ws) h _ (by rw [hw]; exact List.mem_cons_self))
    exact ⟨meth, c, h1, h2, h3, h4, h5, h6⟩
  · intro p e s m args below meth c s₁ B hml hP _
    have hh0 : s₁.heap = s.heap := by rw [B.state]; rfl
    have ht : ∀ x ∈ c.exceptionTable.toList, False := by
      obtain ⟨meth9, c9, h1, h2, -, -, -, -, h7, -⟩ := Cond.code_spec B.named (atoms_spec (ws := ws) B.pre _ (by rw [hw]; exact List.mem_cons_self))
      cases Option.some.inj (h1.symm.trans B.method)
      cases Option.some.inj (h2.symm.trans (Stand.of_body B).code)
      intro x hx
      rw [Array.isEmpty_iff.mp h7] at hx
      cases hx
    obtain ⟨t, a1, o, b1, b2, b3⟩ := body p e s m args below meth c s₁ B hml ht hP s₁ hh0 (Stand.of_body B)
    exact ⟨t, o, a1, b1, b2, b3⟩
/-- the table of a body with handlers -/
theorem vx_table {p : Program} {x y : MethodName} {S : Spec} {cc bytes : ByteArray} {maxL maxL' : Nat} {ret ret' : Option FieldType} {e : Env} {s s₁ : State} {m : MethodId} {args : Array Value} {below : List Frame} {meth : Method} {c : Code} {hh : List (Nat × Nat × Nat × Nat)}
    (B : BodyLoose p l y S cc maxL ret e s m args below meth c s₁) (h : (Cond.codeWith y bytes maxL' ret' hh).before args s = true) : c.exceptionTable.toList = tableOf hh := by
  obtain ⟨m9, meth9, c9, hn9, h1, h2, -, -, h6, -⟩ := Cond.codeWith_spec h
  cases Option.some.inj (hn9.symm.trans B.named)
  cases Option.some.inj (h1.symm.trans B.method)
  cases Option.some.inj (h2.symm.trans (Stand.of_body B).code)
  rw [← h6, table_eq]
end Bodies
end VXA
/-! ===== END ===== -/
/-! ===== BEGIN a static call of a method with an exception table ===== -/
section VXS
variable {p : Program} {l : Launch} {e : Env} {R : Room} {s : State} {m : MethodId} {args : Array Value} {below : List Frame} {meth : Method} {c : Code} {T : State} {H : Heap} {locs : List Loc} {cells slots : Nat}
abbrev vx_CSW (R : Room) (s : State) (args : Array Value) (own : String) (index : Nat) (y : MethodName) (bytes : ByteArray) (maxL : Nat) (ret : Option FieldType) (hh : List (Nat × Nat × Nat × Nat)) (ws : List Cond) (rm : Room) (mc ms n : Nat) : Prop :=
  (rm.cells = mc ∧ rm.slots = ms ∧ rm.frames + 1 ≤ R.frames ∧ 8 + (maxL + 11) + rm.locals ≤ R.locals ∧ (∀ w ∈ ws, ∀ (a' : Array Value) (U : State), s.WarmedH U.vm → w.before a' U = true) ∧ Cond.codeWith y bytes maxL ret hh ∈ ws) ∧
  (Cond.codeWith y bytes maxL ret hh).before args s = true ∧ (Cond.initialized y.cls).before args s = true ∧ (y.cls ≠ "java/lang/invoke/MethodHandle" ∧ y.cls ≠ "java/lang/invoke/VarHandle") ∧
  (∀ sig, parseMethodDescriptor y.desc = some sig → n = sig.parameters.length) ∧ (Cond.methodLink own index y).before args s = true ∧ (Cond.static y).before args s = true
theorem vx_cwSW {own : String} {index maxL mc ms : Nat} {y : MethodName} {bytes : ByteArray} {ret : Option FieldType} {hh : List (Nat × Nat × Nat × Nat)} {Ts ws ws' : List Cond} {rm : Room} (n : Nat) (ht : ∀ w ∈ Ts, w.before args s = true) (hT : GoodIn Ts (va_wsS own index y ws)) (hw : ws = Cond.codeWith y bytes maxL ret hh :: ws') (hrc : rm.cells = mc) (hrs : rm.slots = ms)
    (hd : y.cls ≠ "java/lang/invoke/MethodHandle" ∧ y.cls ≠ "java/lang/invoke/VarHandle" ∧ (parseMethodDescriptor y.desc).map (fun d => d.parameters.length) = some n) (hR : rm.frames + 1 ≤ R.frames ∧ 8 + (maxL + 11) + rm.locals ≤ R.locals) :
    vx_CSW R s args own index y bytes maxL ret hh ws rm mc ms n := by
  have ok : ∀ w ∈ va_wsS own index y ws, w.before args s = true := fun w h => ht w (hT w h).1
  have hG : GoodIn Ts ws := fun w h => hT w (by unfold va_wsS; exact List.mem_append_right _ h)
  have hc : Cond.codeWith y bytes maxL ret hh ∈ ws := by rw [hw]; exact List.mem_cons_self
  refine ⟨⟨hrc, hrs, hR.1, hR.2, pay_in ht hG, hc⟩, ht _ (hG _ hc).1, ok _ (by simp [va_wsS]), ⟨hd.1, hd.2.1⟩, fun sig h => ?_, ok _ (by simp [va_wsS]), ok _ (by simp [va_wsS])⟩
  have h2 := hd.2.2
  rw [h] at h2
  exact (Option.some.inj h2).symm
theorem vx_callSW (X : Stand p l e R s m args below meth c T locs cells slots) (hexec : p.tables.exec = Jvm.exec) {own : String} {index : Nat} {y : MethodName} {bytes : ByteArray} {maxL : Nat} {ret : Option FieldType} {hh : List (Nat × Nat × Nat × Nat)}
    (hown : s.vm.findClass own = some m.cls) (hlink : (Cond.methodLink own index y).before args s = true) (hstat : (Cond.static y).before args s = true) (hinit : (Cond.initialized y.cls).before args s = true)
    (hcode : (Cond.codeWith y bytes maxL ret hh).before args s = true) (hy : y.cls ≠ "java/lang/invoke/MethodHandle" ∧ y.cls ≠ "java/lang/invoke/VarHandle")
    {W9 : Nat} {Pre : Pt → Array Value → Prop} {Post : Pt → Array Value → Option Value → Pt → Prop} (hK : Back l R p e below s args y 3 W9 Pre Post)
    {g : JFrame} (hg : g.method = m) (hsize : g.locals.size = c.maxLocals) {argsL rest : List Value} (hlen : ∀ sig, parseMethodDescriptor y.desc = some sig → argsL.length = sig.parameters.length)
    (hstack : g.stack = argsL.reverse ++ rest) (hW : 2 * g.monitorRoom + (rest.map fun v => v.category).sum ≤ W9) (hdg : decode c.code g.pc = .ok (.invokestatic index, 3))
    (hpre : ∀ vm₁, s.WarmedH vm₁ → Pre ⟨T.setVm vm₁, locs, cells, slots⟩ argsL.toArray) :
    ∃ (v : Option Value) (vm₁ : Vm) (B : Pt), s.WarmedH vm₁ ∧ Stand p l e R s m args below meth c B.U B.locs B.cells B.slots ∧ Post ⟨T.setVm vm₁, locs, cells, slots⟩ argsL.toArray v B ∧
      ∀ target, Steps p.tables e below (B.U.setTop { g with pc := g.pc + 3, stack := v.toList ++ rest }) target → Steps p.tables e below (T.setTop g) target := by
  obtain ⟨mk, methM, cM, hnamed, hmethM, -, -, -, -, -, -, hsigM⟩ := Cond.codeWith_spec hcode
  have hstatic : methM.isStatic = true := Cond.static_spec hnamed hmethM hstat
  obtain ⟨kP, hkP, -⟩ := className_of_methodNamed hnamed
  have hinitP : kP.init = .initialized := Cond.initialized_spec (findClass_of_methodNamed hnamed) hkP hinit
  obtain ⟨vm₁, X₁, hstep₁⟩ := X.invokestatic hexec hown hlink hnamed hmethM hstatic hkP hinitP hy (g := g) hg (argsL := argsL) (rest := rest) (hlen _ hsigM) hstack hdg
  obtain ⟨v, B, X', hpost, hsteps⟩ := hK m meth c ⟨T.setVm vm₁, locs, cells, slots⟩ { g with stack := rest } (.invokestatic index) mk argsL.toArray X₁ hg hsize hdg hW (X₁.named hnamed) (hpre vm₁ X₁.warmed)
  exact ⟨v, vm₁, B, X₁.warmed, X', hpost, fun target h => hstep₁ _ fun acts => by rw [doInvoke_state]; exact hsteps.trans h⟩
theorem vx_runSW {y : MethodName} {bytes cc : ByteArray} {maxL nL mc ms n index : Nat} {ret : Option FieldType} {hh : List (Nat × Nat × Nat × Nat)} {ws : List Cond} {rm : Room} {Pc : Array Value → State → Prop} {Qc : Array Value → State → Outcome → State → Prop} {free : Addr → Prop} {Ts : List Cond} {own : String} {As rest : List Value} {g : JFrame}
    (S : CallFix p m c cc nL s args Ts own) (hM : Met l y ws rm Pc Qc mc ms free) (cw : vx_CSW R s args own index y bytes maxL ret hh ws rm mc ms n) (hp : PreS s H Pc As)
    (hg : g.method = m) (hn : As.length = n) (hsize : g.locals.size = nL) (hstack : g.stack = As.reverse ++ rest) (hW : 2 * g.monitorRoom + (rest.map fun v => v.category).sum ≤ 8) (hdg : decode cc g.pc = .ok (.invokestatic index, 3)) (hf : cells + mc ≤ R.cells ∧ slots + ms ≤ R.slots) :
    va_Run p l e R s m args below meth c H locs cells slots mc ms g rest (Qc As.toArray) (free) := by
  obtain ⟨⟨hrc, hrs, hfr, hlo, hws, hcw⟩, hcode, hini, hy, hlen, hl, hstt⟩ := cw
  have hK : Back l R p e below s args y 3 8 (PreOf R mc ms Pc) (PostOf Qc mc ms free) := va_backW (hh := hh) (bytes := bytes) (maxL := maxL) (ret := ret) hM hp.1 hrc hrs hfr hlo hws hcw (fun a' U hW => word_at hW (Or.inl (by first | rfl | simp [Cond.onTables, Cond.keeps, Cond.steady])) hini)
  obtain ⟨hx, hb, hml, ho, -⟩ := S
  intro T hT X
  obtain ⟨v, vm₁, ⟨U', l2, c2, s2⟩, hW₁, X', ⟨g', mk, t, L, e1, e2, hq, h1, hL, h2, h3⟩, st⟩ := vx_callSW X hx (hh := hh) (bytes := bytes) (maxL := maxL) (ret := ret) ho hl hstt hini hcode hy hK hg (hsize.trans hml.symm) (argsL := As) (rest := rest) (fun sig h => hn.trans (hlen sig h)) hstack hW (by rw [hb]; exact hdg)
    (fun vm₁ hW₁ => ⟨hf.1, hf.2, hp.2 (T.setVm vm₁) hT hW₁⟩)
  dsimp only [Pt.U, Pt.locs, Pt.cells, Pt.slots] at X' e1 e2 h1 h2 h3 st
  subst h1; subst h2; subst h3
  exact ⟨v, (T.setVm vm₁).calling g' mk As.toArray, t, U', L, hT, X', hL, e1, e2, hq, st⟩
/-- not caught here, past rows that name other classes: it goes on to the caller -/
theorem vx_outP {p : Program} {l : Launch} {e : Env} {R : Room} {s : State} {m : MethodId} {args : Array Value} {below : List Frame} {meth : Method} {c : Code} {H : Heap} {locs : List Loc} {cells slots : Nat} {free : Addr → Prop} {ls : Array Slot} {rest : List Value} {Qc : Array Value → State → Outcome → State → Prop} {XC : String → State → State → Prop}
    {pc : Nat} {own E : String} {ce : Cell} {q : Addr} {mc ms : Nat} (hown : s.vm.findClass own = some m.cls) (hlocks : meth.locks = false)
    (hpass : ∀ z ∈ c.exceptionTable.toList, covers z pc = false ∨ (z.catchType ≠ 0 ∧ ∃ nm : String, (Cond.classLink own z.catchType nm).before args s = true ∧ va_Nc E nm s)) (hcell : H[q]? = some ce) (hv : ce.vm = .none) (hcl : s.vm.findClass E = some ce.cls)
    (hx : ∀ t : State, t.heap = H → s.vm.Alike t.vm → XC E s t) (hf : ∀ z ∈ locs, free z.base) (hc : cells ≤ mc) (hs : slots ≤ ms) :
    vx_W p l e R s m args below meth c H locs cells slots (vx_MQ below Qc XC args s mc ms free) (F0 m pc ls rest) q := by
  intro T hT X
  have hpl : e.platform.magicAccessors = ({} : Platform).magicAccessors := by rw [X.admits.platform]
  obtain ⟨vm', hW', X', st⟩ := X.outThrough hlocks q (g := F0 m pc ls rest) rfl rfl rfl (cell := ce) (by rw [hT]; exact hcell) (by rw [hv]; rfl)
    (by obtain ⟨k9, h9, -⟩ := Vm.findClass_spec hcl; exact ⟨k9, h9⟩) (fun z hz => by
      rcases hpass z hz with h | ⟨hz0, nm, hl1, hn1⟩
      · exact Or.inl h
      · obtain ⟨c6, hc6, hcl6⟩ := Cond.classLink_spec hown hl1 e.platform hpl
        obtain ⟨a8, b8, h1, h2, h3⟩ := hn1
        cases Option.some.inj (h1.symm.trans hcl)
        cases Option.some.inj (h2.symm.trans hc6)
        exact Or.inr ⟨hz0, _, hcl6, h3⟩)
  obtain ⟨g₀, hfr⟩ := X'.frames_eq
  have hcell9 : ((T.setVm vm').setFrames (.throwing q :: below)).heap[q]? = some ce := by
    show T.heap[q]? = some ce
    rw [hT]; exact hcell
  have hend : Ended ((T.setVm vm').setFrames (.throwing q :: below)) below (.threw q) := State.frames_setFrames _ (State.cur_lt_of_frames hfr)
  refine ⟨(T.setVm vm').setFrames (.throwing q :: below), ?_, .threw q, X'.here.running, hend, Or.inr ⟨q, rfl, E, ce, locs, hx _ hT (X'.ends _).1.alike, hcell9, hv, hcl, (X'.ends _).1, (X'.ends _).2.mono hc hs, hf⟩⟩
  rw [X.pushThrowing_eq]
  exact st
/-- a thing of a world lies in the heap -/
theorem vx_lt {D : va_G} {cl : List vw_C} {ws : va_W} {H1 : Heap} (h : va_P D cl ws H1) {k : Nat} {q : Nat × va_E} (hk : ws[k]? = some q) : q.1 < H1.size := (h k q hk).lt
end VXS
/-! ===== END ===== -/
/-! ===== BEGIN methods with a table of their own: called by a name, returning or throwing ===== -/
section VXH
/-! vx_backW, vx_callVX, vx_callSX, vx_callVW, vx_runVW, vx_runVX, vx_runSX, vx_ofWH follow the same proofs as their sisters above (Free/Laws.lean, Shelf42/LK1.lean); vx_outP calls Shelf42/NT130.lean (outThrough). -/
section
variable {l : Launch} {R : Room} {p : Program} {e : Env} {below : List Frame} {s : State} {sargs : Array Value} {y : MethodName} {len W9 : Nat}
theorem vx_backW {ws : List Cond} {rm : Room} {Pc : Array Value → State → Prop} {Qc : Array Value → State → Outcome → State → Prop} {XC : String → State → State → Prop} {mc ms : Nat} {free : Addr → Prop} {bytes : ByteArray} {maxL : Nat} {ret : Option FieldType} {hh : List (Nat × Nat × Nat × Nat)}
    (hM : vx_Met l y ws rm Pc Qc XC mc ms free) (hblind : FrameBlind Pc) (hrc : rm.cells = mc) (hrs : rm.slots = ms)
    (hframes : rm.frames + 1 ≤ R.frames) (hlocals : W9 + (maxL + 11) + rm.locals ≤ R.locals)
    (hws : ∀ w ∈ ws, ∀ a' U, s.WarmedH U.vm → w.before a' U = true) (hcode : Cond.codeWith y bytes maxL ret hh ∈ ws) (hinit : ∀ a' U, s.WarmedH U.vm → (Cond.initialized y.cls).before a' U = true) :
    vx_Back l R p e below s sargs y len W9 (PreOf R mc ms Pc) (PostOf Qc mc ms free) (vx_Post XC mc ms free) := by
  intro m meth c A g ig mk a X hg hsize hdg hW hn hp
  have h1 : (headSpec ws rm).pre.before a A.U = true := atoms_intro fun w hw => hws w hw _ _ X.warmed
  have h2 : (Cond.codeWith y bytes maxL ret hh).before a A.U = true := hws _ hcode _ _ X.warmed
  have h3 : (Cond.initialized y.cls).before a A.U = true := hinit _ _ X.warmed
  have h4 : A.cells + (headSpec ws rm).room.cells ≤ R.cells := by rw [show (headSpec ws rm).room.cells = mc from hrc]; exact hp.1
  have h5 : A.slots + (headSpec ws rm).room.slots ≤ R.slots := by rw [show (headSpec ws rm).room.slots = ms from hrs]; exact hp.2.1
  have hPc : Pc a (A.U.calling g mk a) := hblind _ _ _ _ hp.2.2
  obtain ⟨U, Ls, c0, s0⟩ := A
  dsimp only [Pt.U, Pt.locs, Pt.cells, Pt.slots] at h1 h2 h3 h4 h5 X hn hPc ⊢
  obtain ⟨m9, methY, cY, hn9, hmY, hcY, -, hlY, -⟩ := Cond.codeWith_spec h2
  cases Option.some.inj (hn9.symm.trans hn)
  obtain ⟨kY, hkY, -⟩ := className_of_methodNamed hn
  have hinitY : kY.init = .initialized := Cond.initialized_spec (findClass_of_methodNamed hn) hkY h3
  have h : At U g.method c below := by rw [hg]; exact X.here
  have hlocals9 : W9 + (maxL + 11) + (headSpec ws rm).room.locals ≤ R.locals := hlocals
  have happ : (headSpec ws rm).appliesLoose y e.platform (U.calling g mk a) = true :=
    Spec.appliesLoose_calling (g := g) h hdg hn hkY hinitY
      (X.room_calling (g := g) (R' := (headSpec ws rm).room) hsize hmY hcY hframes (by rw [hlY]; omega) h4 h5) h1
  obtain ⟨mid, hmid⟩ := h.above
  have hfr : (U.setTop g).frames = (.java g :: mid) ++ below := by rw [State.frames_setTop' g h.top, hmid]; rfl
  obtain ⟨o, s₂, hsteps, -, hend, hq⟩ := Steps.callFree hM p X.admits X.cas X.clock (acts := []) hfr happ hPc trivial
  have hq' : vx_Q Qc XC mc ms free a (U.calling g mk a) o s₂ := hq
  rw [State.frames_setTop' g h.top] at hend
  obtain ⟨g₀, hg0⟩ := Option.isSome_iff_exists.mp h.top
  obtain ⟨r, hr⟩ := State.topJava?_eq_some.mp hg0
  have hr' : (({ U with heap := s₂.heap, slotsUsed := s₂.slotsUsed } : State).setVm s₂.vm).frames = .java g₀ :: r := hr
  rcases hq' with ⟨hqc, L, hfe, hL⟩ | ⟨q, rfl, E, ce, L, hx, hce, hcv, hcl, hW₂, hsm, hL⟩
  · obtain ⟨⟨v, rfl⟩, hW₂, e2, q2, q3, q4, q5, q6⟩ := id hfe
    have e3 : s₂ = ({ (U.calling g mk a).setFrames s₂.frames with heap := s₂.heap, slotsUsed := s₂.slotsUsed } : State).setVm s₂.vm := by
      have : s₂ = ({ s₂ with vm := (U.calling g mk a).vm } : State).setVm s₂.vm := rfl
      rw [e2] at this
      exact this
    obtain ⟨c₂, i₂, len₂, hc₂, hd₂, hf₂⟩ := hend
    have hW' : U.WarmedH s₂.vm := hW₂
    have hcc : c₂ = c := by
      have h1 : s₂.code? g.method = U.code? g.method := by
        rw [State.code?_eq, State.code?_eq, hW'.alike.method?]
      exact Option.some.inj (hc₂.symm.trans (h1.trans h.code))
    subst hcc
    have hlen : len₂ = len := by rw [hdg] at hd₂; cases hd₂; rfl
    subst hlen
    have hs₂ : s₂ = (({ U with heap := s₂.heap, slotsUsed := s₂.slotsUsed } : State).setVm s₂.vm).setTop { g with pc := g.pc + len₂, stack := v.toList ++ g.stack } := by
      refine e3.trans ?_
      rw [hf₂, State.calling_eq h.top, State.setFrames_setFrames, State.setTop_of_frames _ hr', hr]
      rfl
    have hsame : U.sameButNew ({ U with heap := s₂.heap, slotsUsed := s₂.slotsUsed } : State) L mc ms := by
      refine ⟨?_, q2, q3, q4, q5, q6⟩
      obtain ⟨t, ht, -⟩ := State.frames_cons hr
      show ({ U with heap := s₂.heap, slotsUsed := s₂.slotsUsed } : State) = { U.setFrames U.frames with heap := s₂.heap, slotsUsed := s₂.slotsUsed }
      rw [State.setFrames_self ht]
    subst hg
    refine Or.inl ⟨v, ⟨(({ U with heap := s₂.heap, slotsUsed := s₂.slotsUsed } : State).setVm s₂.vm), Ls ++ L, c0 + mc, s0 + ms⟩,
      ⟨X.admits, X.cas, X.clock, X.frames, X.room, X.hears, X.method, X.code, (X.here.setHeapUsed s₂.heap s₂.slotsUsed).setVm hW'.alike, X.tail, State.WarmedH.trans X.warmed hW', X.limits, X.bytes, X.same.trans (hsame.setVm s.vm)⟩,
      ⟨g, mk, s₂, L, rfl, rfl, hqc, rfl, hL, rfl, rfl⟩, ?_⟩
    show Steps p.tables e below _ ((({ U with heap := s₂.heap, slotsUsed := s₂.slotsUsed } : State).setVm s₂.vm).setTop { g with pc := g.pc + len₂, stack := v.toList ++ g.stack })
    rw [← hs₂]
    exact hsteps
  · obtain ⟨e2, q2, q3, q4, q5, q6⟩ := id hsm
    have e3 : s₂ = ({ (U.calling g mk a).setFrames s₂.frames with heap := s₂.heap, slotsUsed := s₂.slotsUsed } : State).setVm s₂.vm := by
      have : s₂ = ({ s₂ with vm := (U.calling g mk a).vm } : State).setVm s₂.vm := rfl
      rw [e2] at this
      exact this
    have hf₂ : s₂.frames = .throwing q :: .java g :: U.frames.tail := hend
    have hW' : U.WarmedH s₂.vm := hW₂
    have hs₂ : s₂ = ((({ U with heap := s₂.heap, slotsUsed := s₂.slotsUsed } : State).setVm s₂.vm).setTop g).pushFrame (.throwing q) := by
      refine e3.trans ?_
      rw [hf₂, State.calling_eq h.top, State.setFrames_setFrames, State.pushFrame, State.frames_setTop _ hr', State.setTop_of_frames _ hr', State.setFrames_setFrames, hr]
      rfl
    have hsame : U.sameButNew ({ U with heap := s₂.heap, slotsUsed := s₂.slotsUsed } : State) L mc ms := by
      refine ⟨?_, q2, q3, q4, q5, q6⟩
      obtain ⟨t, ht, -⟩ := State.frames_cons hr
      show ({ U with heap := s₂.heap, slotsUsed := s₂.slotsUsed } : State) = { U.setFrames U.frames with heap := s₂.heap, slotsUsed := s₂.slotsUsed }
      rw [State.setFrames_self ht]
    subst hg
    refine Or.inr ⟨q, ⟨(({ U with heap := s₂.heap, slotsUsed := s₂.slotsUsed } : State).setVm s₂.vm), Ls ++ L, c0 + mc, s0 + ms⟩,
      ⟨X.admits, X.cas, X.clock, X.frames, X.room, X.hears, X.method, X.code, (X.here.setHeapUsed s₂.heap s₂.slotsUsed).setVm hW'.alike, X.tail, State.WarmedH.trans X.warmed hW', X.limits, X.bytes, X.same.trans (hsame.setVm s.vm)⟩,
      ⟨g, mk, s₂, L, E, ce, rfl, rfl, hx, hce, hcv, hcl, rfl, hL, rfl, rfl⟩, ?_⟩
    show Steps p.tables e below _ (((({ U with heap := s₂.heap, slotsUsed := s₂.slotsUsed } : State).setVm s₂.vm).setTop g).pushFrame (.throwing q))
    rw [← hs₂]
    exact hsteps
end
variable {p : Program} {l : Launch} {e : Env} {R : Room} {s : State} {m : MethodId} {args : Array Value} {below : List Frame} {meth : Method} {c : Code} {T : State} {H : Heap} {locs : List Loc} {cells slots : Nat}
theorem vx_callVX (X : Stand p l e R s m args below meth c T locs cells slots) (hexec : p.tables.exec = Jvm.exec) {own C : String} {index : Nat} {y : MethodName} {bytes : ByteArray} {maxL : Nat} {ret : Option FieldType} {hh : List (Nat × Nat × Nat × Nat)}
    (hown : s.vm.findClass own = some m.cls) (hlink : (Cond.methodLink own index y).before args s = true) (hinst : (Cond.instanceMethod y).before args s = true) (hsel : (Cond.selects C y y).before args s = true)
    (hcode : (Cond.codeWith y bytes maxL ret hh).before args s = true) (hy : y.cls ≠ "java/lang/invoke/MethodHandle" ∧ y.cls ≠ "java/lang/invoke/VarHandle")
    {W9 : Nat} {Pre : Pt → Array Value → Prop} {Post : Pt → Array Value → Option Value → Pt → Prop} {PostX : Pt → Array Value → Addr → Pt → Prop} (hK : vx_Back l R p e below s args y 3 W9 Pre Post PostX)
    {b : Addr} {cellB : Cell} (hcell : T.heap[b]? = some cellB) (hobj : cellB.vm.isStatics = false) (hcls : s.vm.findClass C = some cellB.cls)
    {g : JFrame} (hg : g.method = m) (hsize : g.locals.size = c.maxLocals) {argsL rest : List Value} (hlen : ∀ sig, parseMethodDescriptor y.desc = some sig → argsL.length = sig.parameters.length)
    (hstack : g.stack = argsL.reverse ++ .ref b :: rest) (hW : 2 * g.monitorRoom + (rest.map fun v => v.category).sum ≤ W9) (hdg : decode c.code g.pc = .ok (.invokevirtual index, 3))
    (hpre : ∀ vm₁, s.WarmedH vm₁ → Pre ⟨T.setVm vm₁, locs, cells, slots⟩ (Value.ref b :: argsL).toArray) :
    (∃ (v : Option Value) (vm₁ : Vm) (B : Pt), s.WarmedH vm₁ ∧ Stand p l e R s m args below meth c B.U B.locs B.cells B.slots ∧ Post ⟨T.setVm vm₁, locs, cells, slots⟩ (Value.ref b :: argsL).toArray v B ∧
      ∀ target, Steps p.tables e below (B.U.setTop { g with pc := g.pc + 3, stack := v.toList ++ rest }) target → Steps p.tables e below (T.setTop g) target) ∨
    (∃ (q : Addr) (vm₁ : Vm) (B : Pt), s.WarmedH vm₁ ∧ Stand p l e R s m args below meth c B.U B.locs B.cells B.slots ∧ PostX ⟨T.setVm vm₁, locs, cells, slots⟩ (Value.ref b :: argsL).toArray q B ∧
      Steps p.tables e below (T.setTop g) ((B.U.setTop { g with stack := rest }).pushFrame (.throwing q))) := by
  obtain ⟨mk, methM, hnamed, hmethM, hstM, habM⟩ := Cond.instanceMethod_spec hinst
  obtain ⟨m8, methM', cM, hn8, hmethM', -, -, -, -, -, -, hsigM⟩ := Cond.codeWith_spec hcode
  cases Option.some.inj (hn8.symm.trans hnamed)
  cases hmethM.symm.trans hmethM'
  obtain ⟨c2, r2, m2, q1, q2, q3, q4, kP, hkP, hkPi⟩ := Cond.selects_spec hsel
  cases hcls.symm.trans q1
  cases (State.methodFound?_of_named hnamed hy).symm.trans q2
  cases hnamed.symm.trans q3
  have hselP : selectMethod e.platform s.vm cellB.cls mk = .method mk := by rw [Launch.admits_selectMethod X.admits]; exact q4
  obtain ⟨vm₁, X₁, hstep₁⟩ := X.invokevirtual hexec hown hlink hnamed hmethM hstM hkP hkPi hy (a := b) (cell := cellB) hcell
    (fun z h => by rw [h] at hobj; cases hobj) hselP hmethM habM hkP hkPi (g := g) hg (argsL := argsL) (rest := rest) (hlen _ hsigM) hstack hdg
  rcases hK m meth c ⟨T.setVm vm₁, locs, cells, slots⟩ { g with stack := rest } (.invokevirtual index) mk (Value.ref b :: argsL).toArray X₁ hg hsize hdg hW (X₁.named hnamed) (hpre vm₁ X₁.warmed) with ⟨v, B, X', hpost, hsteps⟩ | ⟨q, B, X', hpost, hsteps⟩
  · exact Or.inl ⟨v, vm₁, B, X₁.warmed, X', hpost, fun target h => hstep₁ _ fun acts => by rw [doInvoke_state]; exact hsteps.trans h⟩
  · exact Or.inr ⟨q, vm₁, B, X₁.warmed, X', hpost, hstep₁ _ fun acts => by rw [doInvoke_state]; exact hsteps⟩
theorem vx_callSX (X : Stand p l e R s m args below meth c T locs cells slots) (hexec : p.tables.exec = Jvm.exec) {own : String} {index : Nat} {y : MethodName} {bytes : ByteArray} {maxL : Nat} {ret : Option FieldType} {hh : List (Nat × Nat × Nat × Nat)}
    (hown : s.vm.findClass own = some m.cls) (hlink : (Cond.methodLink own index y).before args s = true) (hstat : (Cond.static y).before args s = true) (hinit : (Cond.initialized y.cls).before args s = true)
    (hcode : (Cond.codeWith y bytes maxL ret hh).before args s = true) (hy : y.cls ≠ "java/lang/invoke/MethodHandle" ∧ y.cls ≠ "java/lang/invoke/VarHandle")
    {W9 : Nat} {Pre : Pt → Array Value → Prop} {Post : Pt → Array Value → Option Value → Pt → Prop} {PostX : Pt → Array Value → Addr → Pt → Prop} (hK : vx_Back l R p e below s args y 3 W9 Pre Post PostX)
    {g : JFrame} (hg : g.method = m) (hsize : g.locals.size = c.maxLocals) {argsL rest : List Value} (hlen : ∀ sig, parseMethodDescriptor y.desc = some sig → argsL.length = sig.parameters.length)
    (hstack : g.stack = argsL.reverse ++ rest) (hW : 2 * g.monitorRoom + (rest.map fun v => v.category).sum ≤ W9) (hdg : decode c.code g.pc = .ok (.invokestatic index, 3))
    (hpre : ∀ vm₁, s.WarmedH vm₁ → Pre ⟨T.setVm vm₁, locs, cells, slots⟩ argsL.toArray) :
    (∃ (v : Option Value) (vm₁ : Vm) (B : Pt), s.WarmedH vm₁ ∧ Stand p l e R s m args below meth c B.U B.locs B.cells B.slots ∧ Post ⟨T.setVm vm₁, locs, cells, slots⟩ argsL.toArray v B ∧
      ∀ target, Steps p.tables e below (B.U.setTop { g with pc := g.pc + 3, stack := v.toList ++ rest }) target → Steps p.tables e below (T.setTop g) target) ∨
    (∃ (q : Addr) (vm₁ : Vm) (B : Pt), s.WarmedH vm₁ ∧ Stand p l e R s m args below meth c B.U B.locs B.cells B.slots ∧ PostX ⟨T.setVm vm₁, locs, cells, slots⟩ argsL.toArray q B ∧
      Steps p.tables e below (T.setTop g) ((B.U.setTop { g with stack := rest }).pushFrame (.throwing q))) := by
  obtain ⟨mk, methM, cM, hnamed, hmethM, -, -, -, -, -, -, hsigM⟩ := Cond.codeWith_spec hcode
  have hstatic : methM.isStatic = true := Cond.static_spec hnamed hmethM hstat
  obtain ⟨kP, hkP, -⟩ := className_of_methodNamed hnamed
  have hinitP : kP.init = .initialized := Cond.initialized_spec (findClass_of_methodNamed hnamed) hkP hinit
  obtain ⟨vm₁, X₁, hstep₁⟩ := X.invokestatic hexec hown hlink hnamed hmethM hstatic hkP hinitP hy (g := g) hg (argsL := argsL) (rest := rest) (hlen _ hsigM) hstack hdg
  rcases hK m meth c ⟨T.setVm vm₁, locs, cells, slots⟩ { g with stack := rest } (.invokestatic index) mk argsL.toArray X₁ hg hsize hdg hW (X₁.named hnamed) (hpre vm₁ X₁.warmed) with ⟨v, B, X', hpost, hsteps⟩ | ⟨q, B, X', hpost, hsteps⟩
  · exact Or.inl ⟨v, vm₁, B, X₁.warmed, X', hpost, fun target h => hstep₁ _ fun acts => by rw [doInvoke_state]; exact hsteps.trans h⟩
  · exact Or.inr ⟨q, vm₁, B, X₁.warmed, X', hpost, hstep₁ _ fun acts => by rw [doInvoke_state]; exact hsteps⟩
theorem vx_callVW (X : Stand p l e R s m args below meth c T locs cells slots) (hexec : p.tables.exec = Jvm.exec) {own C : String} {index : Nat} {y : MethodName} {bytes : ByteArray} {maxL : Nat} {ret : Option FieldType} {hh : List (Nat × Nat × Nat × Nat)}
    (hown : s.vm.findClass own = some m.cls) (hlink : (Cond.methodLink own index y).before args s = true) (hinst : (Cond.instanceMethod y).before args s = true) (hsel : (Cond.selects C y y).before args s = true)
    (hcode : (Cond.codeWith y bytes maxL ret hh).before args s = true) (hy : y.cls ≠ "java/lang/invoke/MethodHandle" ∧ y.cls ≠ "java/lang/invoke/VarHandle")
    {W9 : Nat} {Pre : Pt → Array Value → Prop} {Post : Pt → Array Value → Option Value → Pt → Prop} (hK : Back l R p e below s args y 3 W9 Pre Post)
    {b : Addr} {cellB : Cell} (hcell : T.heap[b]? = some cellB) (hobj : cellB.vm.isStatics = false) (hcls : s.vm.findClass C = some cellB.cls)
    {g : JFrame} (hg : g.method = m) (hsize : g.locals.size = c.maxLocals) {argsL rest : List Value} (hlen : ∀ sig, parseMethodDescriptor y.desc = some sig → argsL.length = sig.parameters.length)
    (hstack : g.stack = argsL.reverse ++ .ref b :: rest) (hW : 2 * g.monitorRoom + (rest.map fun v => v.category).sum ≤ W9) (hdg : decode c.code g.pc = .ok (.invokevirtual index, 3))
    (hpre : ∀ vm₁, s.WarmedH vm₁ → Pre ⟨T.setVm vm₁, locs, cells, slots⟩ (Value.ref b :: argsL).toArray) :
    ∃ (v : Option Value) (vm₁ : Vm) (B : Pt), s.WarmedH vm₁ ∧ Stand p l e R s m args below meth c B.U B.locs B.cells B.slots ∧ Post ⟨T.setVm vm₁, locs, cells, slots⟩ (Value.ref b :: argsL).toArray v B ∧
      ∀ target, Steps p.tables e below (B.U.setTop { g with pc := g.pc + 3, stack := v.toList ++ rest }) target → Steps p.tables e below (T.setTop g) target := by
  obtain ⟨mk, methM, hnamed, hmethM, hstM, habM⟩ := Cond.instanceMethod_spec hinst
  obtain ⟨m8, methM', cM, hn8, hmethM', -, -, -, -, -, -, hsigM⟩ := Cond.codeWith_spec hcode
  cases Option.some.inj (hn8.symm.trans hnamed)
  cases hmethM.symm.trans hmethM'
  obtain ⟨c2, r2, m2, q1, q2, q3, q4, kP, hkP, hkPi⟩ := Cond.selects_spec hsel
  cases hcls.symm.trans q1
  cases (State.methodFound?_of_named hnamed hy).symm.trans q2
  cases hnamed.symm.trans q3
  have hselP : selectMethod e.platform s.vm cellB.cls mk = .method mk := by rw [Launch.admits_selectMethod X.admits]; exact q4
  obtain ⟨vm₁, X₁, hstep₁⟩ := X.invokevirtual hexec hown hlink hnamed hmethM hstM hkP hkPi hy (a := b) (cell := cellB) hcell
    (fun z h => by rw [h] at hobj; cases hobj) hselP hmethM habM hkP hkPi (g := g) hg (argsL := argsL) (rest := rest) (hlen _ hsigM) hstack hdg
  obtain ⟨v, B, X', hpost, hsteps⟩ := hK m meth c ⟨T.setVm vm₁, locs, cells, slots⟩ { g with stack := rest } (.invokevirtual index) mk (Value.ref b :: argsL).toArray X₁ hg hsize hdg hW (X₁.named hnamed) (hpre vm₁ X₁.warmed)
  exact ⟨v, vm₁, B, X₁.warmed, X', hpost, fun target h => hstep₁ _ fun acts => by rw [doInvoke_state]; exact hsteps.trans h⟩
abbrev vx_CVW (R : Room) (s : State) (args : Array Value) (own C : String) (index : Nat) (y : MethodName) (bytes : ByteArray) (maxL : Nat) (ret : Option FieldType) (hh : List (Nat × Nat × Nat × Nat)) (ws : List Cond) (rm : Room) (mc ms n : Nat) : Prop :=
  (rm.cells = mc ∧ rm.slots = ms ∧ rm.frames + 1 ≤ R.frames ∧ 8 + (maxL + 11) + rm.locals ≤ R.locals ∧ (∀ w ∈ ws, ∀ (a' : Array Value) (U : State), s.WarmedH U.vm → w.before a' U = true) ∧ Cond.codeWith y bytes maxL ret hh ∈ ws) ∧
  (Cond.codeWith y bytes maxL ret hh).before args s = true ∧ (Cond.initialized y.cls).before args s = true ∧ (y.cls ≠ "java/lang/invoke/MethodHandle" ∧ y.cls ≠ "java/lang/invoke/VarHandle") ∧
  (∀ sig, parseMethodDescriptor y.desc = some sig → n = sig.parameters.length) ∧ (Cond.methodLink own index y).before args s = true ∧ (Cond.instanceMethod y).before args s = true ∧ (Cond.selects C y y).before args s = true
theorem vx_cwVW {own C : String} {index maxL mc ms : Nat} {y : MethodName} {bytes : ByteArray} {ret : Option FieldType} {hh : List (Nat × Nat × Nat × Nat)} {Ts ws ws' : List Cond} {rm : Room} (n : Nat) (ht : ∀ w ∈ Ts, w.before args s = true) (hT : GoodIn Ts (wsV own index C y ws)) (hw : ws = Cond.codeWith y bytes maxL ret hh :: ws') (hrc : rm.cells = mc) (hrs : rm.slots = ms)
    (hd : y.cls = C ∧ y.cls ≠ "java/lang/invoke/MethodHandle" ∧ y.cls ≠ "java/lang/invoke/VarHandle" ∧ (parseMethodDescriptor y.desc).map (fun d => d.parameters.length) = some n) (hR : rm.frames + 1 ≤ R.frames ∧ 8 + (maxL + 11) + rm.locals ≤ R.locals) :
    vx_CVW R s args own C index y bytes maxL ret hh ws rm mc ms n := by
  obtain ⟨hC, hd⟩ := hd
  subst hC
  have ok : ∀ w ∈ wsV own index y.cls y ws, w.before args s = true := fun w h => ht w (hT w h).1
  have hG : GoodIn Ts ws := fun w h => hT w (by unfold wsV; exact List.mem_append_right _ h)
  have hc : Cond.codeWith y bytes maxL ret hh ∈ ws := by rw [hw]; exact List.mem_cons_self
  refine ⟨⟨hrc, hrs, hR.1, hR.2, pay_in ht hG, hc⟩, ht _ (hG _ hc).1, ok _ (by simp [wsV]), ⟨hd.1, hd.2.1⟩, fun sig h => ?_, ok _ (by simp [wsV]), ok _ (by simp [wsV]), ok _ (by simp [wsV])⟩
  have h2 := hd.2.2
  rw [h] at h2
  exact (Option.some.inj h2).symm
theorem vx_runVW {y : MethodName} {bytes cc : ByteArray} {maxL nL mc ms n index : Nat} {ret : Option FieldType} {hh : List (Nat × Nat × Nat × Nat)} {ws : List Cond} {rm : Room} {Pc : Array Value → State → Prop} {Qc : Array Value → State → Outcome → State → Prop} {free : Addr → Prop} {Ts : List Cond} {own C : String} {b : Addr} {As rest : List Value} {g : JFrame}
    (S : CallFix p m c cc nL s args Ts own) (hM : Met l y ws rm Pc Qc mc ms free) (cw : vx_CVW R s args own C index y bytes maxL ret hh ws rm mc ms n) (hp : PreV s H C b Pc As)
    (hg : g.method = m) (hn : As.length = n) (hsize : g.locals.size = nL) (hstack : g.stack = As.reverse ++ .ref b :: rest) (hW : 2 * g.monitorRoom + (rest.map fun v => v.category).sum ≤ 8) (hdg : decode cc g.pc = .ok (.invokevirtual index, 3)) (hf : cells + mc ≤ R.cells ∧ slots + ms ≤ R.slots) :
    va_Run p l e R s m args below meth c H locs cells slots mc ms g rest (Qc (Value.ref b :: As).toArray) free := by
  obtain ⟨⟨hrc, hrs, hfr, hlo, hws, hcw⟩, hcode, hini, hy, hlen, hl, hin, hse⟩ := cw
  have hK : Back l R p e below s args y 3 8 (PreOf R mc ms Pc) (PostOf Qc mc ms free) := va_backW (hh := hh) (bytes := bytes) (maxL := maxL) (ret := ret) hM hp.1 hrc hrs hfr hlo hws hcw (fun a' U hW => word_at hW (Or.inl (by first | rfl | simp [Cond.onTables, Cond.keeps, Cond.steady])) hini)
  obtain ⟨hx, hb, hml, ho, -⟩ := S
  obtain ⟨-, ⟨cellB, hcB, hoB, hclB⟩, hPc⟩ := hp
  intro T hT X
  obtain ⟨v, vm₁, ⟨U', l2, c2, s2⟩, hW₁, X', ⟨g', mk, t, L, e1, e2, hq, h1, hL, h2, h3⟩, st⟩ := vx_callVW X hx (C := C) (hh := hh) (bytes := bytes) (maxL := maxL) (ret := ret) ho hl hin hse hcode hy hK (by rw [hT]; exact hcB) hoB hclB hg (hsize.trans hml.symm) (argsL := As) (rest := rest) (fun sig h => hn.trans (hlen sig h)) hstack hW (by rw [hb]; exact hdg)
    (fun vm₁ hW₁ => ⟨hf.1, hf.2, hPc (T.setVm vm₁) hT hW₁⟩)
  dsimp only [Pt.U, Pt.locs, Pt.cells, Pt.slots] at X' e1 e2 h1 h2 h3 st
  subst h1; subst h2; subst h3
  exact ⟨v, (T.setVm vm₁).calling g' mk (Value.ref b :: As).toArray, t, U', L, hT, X', hL, e1, e2, hq, st⟩
section
variable {y : MethodName} {bytes cc : ByteArray} {maxL nL mc ms n index : Nat} {ret : Option FieldType} {ws : List Cond} {rm : Room} {Pc : Array Value → State → Prop} {Qc : Array Value → State → Outcome → State → Prop} {XC : String → State → State → Prop} {free : Addr → Prop} {Ts : List Cond} {own C : String} {b : Addr} {As rest : List Value} {g : JFrame}
theorem vx_runVX {hh : List (Nat × Nat × Nat × Nat)} (S : CallFix p m c cc nL s args Ts own) (hM : vx_Met l y ws rm Pc Qc XC mc ms free) (cw : vx_CVW R s args own C index y bytes maxL ret hh ws rm mc ms n) (hp : PreV s H C b Pc As)
    (hg : g.method = m) (hn : As.length = n) (hsize : g.locals.size = nL) (hstack : g.stack = As.reverse ++ .ref b :: rest) (hW : 2 * g.monitorRoom + (rest.map fun v => v.category).sum ≤ 8) (hdg : decode cc g.pc = .ok (.invokevirtual index, 3)) (hf : cells + mc ≤ R.cells ∧ slots + ms ≤ R.slots) :
    vx_Run p l e R s m args below meth c H locs cells slots mc ms g rest (Qc (Value.ref b :: As).toArray) XC free := by
  obtain ⟨⟨hrc, hrs, hfr, hlo, hws, hcw⟩, hcode, hini, hy, hlen, hl, hin, hse⟩ := cw
  have hK : vx_Back l R p e below s args y 3 8 (PreOf R mc ms Pc) (PostOf Qc mc ms free) (vx_Post XC mc ms free) := vx_backW (hh := hh) (bytes := bytes) (maxL := maxL) (ret := ret) hM hp.1 hrc hrs hfr hlo hws hcw (fun a' U hW => word_at hW (Or.inl (by first | rfl | simp [Cond.onTables, Cond.keeps, Cond.steady])) hini)
  obtain ⟨hx, hb, hml, ho, -⟩ := S
  obtain ⟨-, ⟨cellB, hcB, hoB, hclB⟩, hPc⟩ := hp
  intro T hT X
  rcases vx_callVX X hx (C := C) (hh := hh) (bytes := bytes) (maxL := maxL) (ret := ret) ho hl hin hse hcode hy hK (by rw [hT]; exact hcB) hoB hclB hg (hsize.trans hml.symm) (argsL := As) (rest := rest) (fun sig h => hn.trans (hlen sig h)) hstack hW (by rw [hb]; exact hdg)
    (fun vm₁ hW₁ => ⟨hf.1, hf.2, hPc (T.setVm vm₁) hT hW₁⟩) with ⟨v, vm₁, ⟨U', l2, c2, s2⟩, hW₁, X', ⟨g', mk, t, L, e1, e2, hq, h1, hL, h2, h3⟩, st⟩ | ⟨q, vm₁, ⟨U', l2, c2, s2⟩, hW₁, X', ⟨g', mk, t, L, E, ce, e1, e2, hq, hce, hcv, hcl, h1, hL, h2, h3⟩, st⟩
  · dsimp only [Pt.U, Pt.locs, Pt.cells, Pt.slots] at X' e1 e2 h1 h2 h3 st
    subst h1; subst h2; subst h3
    exact Or.inl ⟨v, (T.setVm vm₁).calling g' mk (Value.ref b :: As).toArray, t, U', L, hT, X', hL, e1, e2, hq, st⟩
  · dsimp only [Pt.U, Pt.locs, Pt.cells, Pt.slots] at X' e1 e2 h1 h2 h3 st hcl
    subst h1; subst h2; subst h3
    exact Or.inr ⟨q, (T.setVm vm₁).calling g' mk (Value.ref b :: As).toArray, t, U', L, E, ce, hT, X', hL, e1, e2, hq, hce, hcv, vx_cls hW₁ hcl, st⟩
theorem vx_runSX {hh : List (Nat × Nat × Nat × Nat)} (S : CallFix p m c cc nL s args Ts own) (hM : vx_Met l y ws rm Pc Qc XC mc ms free) (cw : vx_CSW R s args own index y bytes maxL ret hh ws rm mc ms n) (hp : PreS s H Pc As)
    (hg : g.method = m) (hn : As.length = n) (hsize : g.locals.size = nL) (hstack : g.stack = As.reverse ++ rest) (hW : 2 * g.monitorRoom + (rest.map fun v => v.category).sum ≤ 8) (hdg : decode cc g.pc = .ok (.invokestatic index, 3)) (hf : cells + mc ≤ R.cells ∧ slots + ms ≤ R.slots) :
    vx_Run p l e R s m args below meth c H locs cells slots mc ms g rest (Qc As.toArray) XC free := by
  obtain ⟨⟨hrc, hrs, hfr, hlo, hws, hcw⟩, hcode, hini, hy, hlen, hl, hstt⟩ := cw
  have hK : vx_Back l R p e below s args y 3 8 (PreOf R mc ms Pc) (PostOf Qc mc ms free) (vx_Post XC mc ms free) := vx_backW (hh := hh) (bytes := bytes) (maxL := maxL) (ret := ret) hM hp.1 hrc hrs hfr hlo hws hcw (fun a' U hW => word_at hW (Or.inl (by first | rfl | simp [Cond.onTables, Cond.keeps, Cond.steady])) hini)
  obtain ⟨hx, hb, hml, ho, -⟩ := S
  intro T hT X
  rcases vx_callSX X hx (hh := hh) (bytes := bytes) (maxL := maxL) (ret := ret) ho hl hstt hini hcode hy hK hg (hsize.trans hml.symm) (argsL := As) (rest := rest) (fun sig h => hn.trans (hlen sig h)) hstack hW (by rw [hb]; exact hdg)
    (fun vm₁ hW₁ => ⟨hf.1, hf.2, hp.2 (T.setVm vm₁) hT hW₁⟩) with ⟨v, vm₁, ⟨U', l2, c2, s2⟩, hW₁, X', ⟨g', mk, t, L, e1, e2, hq, h1, hL, h2, h3⟩, st⟩ | ⟨q, vm₁, ⟨U', l2, c2, s2⟩, hW₁, X', ⟨g', mk, t, L, E, ce, e1, e2, hq, hce, hcv, hcl, h1, hL, h2, h3⟩, st⟩
  · dsimp only [Pt.U, Pt.locs, Pt.cells, Pt.slots] at X' e1 e2 h1 h2 h3 st
    subst h1; subst h2; subst h3
    exact Or.inl ⟨v, (T.setVm vm₁).calling g' mk As.toArray, t, U', L, hT, X', hL, e1, e2, hq, st⟩
  · dsimp only [Pt.U, Pt.locs, Pt.cells, Pt.slots] at X' e1 e2 h1 h2 h3 st hcl
    subst h1; subst h2; subst h3
    exact Or.inr ⟨q, (T.setVm vm₁).calling g' mk As.toArray, t, U', L, E, ce, hT, X', hL, e1, e2, hq, hce, hcv, vx_cls hW₁ hcl, st⟩
end
end VXH
theorem vx_ofWH {l : Launch} {y : MethodName} {ws ws' : List Cond} {rm : Room} {Pc : Array Value → State → Prop} {Qc : Array Value → State → Outcome → State → Prop} {XC : String → State → State → Prop} {mc ms : Nat} {free : Addr → Prop} {cc : ByteArray} {maxL : Nat} {ret : Option FieldType} {hh : List (Nat × Nat × Nat × Nat)}
    (hy : plainName y.cls = true) (hw : ws = Cond.codeWith y cc maxL ret hh :: ws')
    (body : ∀ p e s m args below meth c s₁, BodyLoose p l y (headSpec ws rm) cc maxL ret e s m args below meth c s₁ → c.maxLocals = maxL → Pc args s →
      W p l e (headSpec ws rm).room s m args below meth c s.heap [] 0 0 (vx_MQ below Qc XC args s mc ms free) (entryFrame m args maxL)) : vx_Met l y ws rm Pc Qc XC mc ms free := by
  refine MetFree.of_bodyS (code := cc) (maxLocals := maxL) (ret := ret) hy ?_ ?_
  · intro args s m h hn
    obtain ⟨m9, meth, c, hn9, h1, h2, h3, h4, -, h5, h6, -⟩ := Cond.codeWith_spec (atoms_spec (ws := ws) h _ (by rw [hw]; exact List.mem_cons_self))
    cases hn.symm.trans hn9
    exact ⟨meth, c, h1, h2, h3, h4, h5, h6⟩
  · intro p e s m args below meth c s₁ B hml hP _
    have hh0 : s₁.heap = s.heap := by rw [B.state]; rfl
    obtain ⟨t, a1, o, b1, b2, b3⟩ := body p e s m args below meth c s₁ B hml hP s₁ hh0 (Stand.of_body B)
    exact ⟨t, o, a1, b1, b2, b3⟩
/-! ===== END ===== -/
/-! ===== BEGIN a private method of a nest mate that may throw (follows va_callVN, va_callSN, va_runVN, va_runSN) ===== -/
section
variable {p : Program} {l : Launch} {e : Env} {R : Room} {s : State} {m : MethodId} {args : Array Value} {below : List Frame} {meth : Method} {c : Code} {H : Heap} {locs : List Loc} {cells slots : Nat}
variable {T : State}
theorem vx_callVN (X : Stand p l e R s m args below meth c T locs cells slots) (hexec : p.tables.exec = Jvm.exec) {own C : String} {index : Nat} {host : String} {y : MethodName} {bytes : ByteArray} {maxL : Nat} {ret : Option FieldType}
    (hown : s.vm.findClass own = some m.cls) (hlink : (Cond.methodLinkNest own index y host).before args s = true) (hinst : (Cond.instanceMethod y).before args s = true) (hsel : (Cond.selects C y y).before args s = true)
    (hcode : (Cond.code y bytes maxL ret).before args s = true) (hy : y.cls ≠ "java/lang/invoke/MethodHandle" ∧ y.cls ≠ "java/lang/invoke/VarHandle")
    {W : Nat} {Pre : Pt → Array Value → Prop} {Post : Pt → Array Value → Option Value → Pt → Prop} {PostX : Pt → Array Value → Addr → Pt → Prop} (hK : vx_Back l R p e below s args y 3 W Pre Post PostX)
    {b : Addr} {cellB : Cell} (hcell : T.heap[b]? = some cellB) (hobj : cellB.vm.isStatics = false) (hcls : s.vm.findClass C = some cellB.cls)
    {g : JFrame} (hg : g.method = m) (hsize : g.locals.size = c.maxLocals) {argsL rest : List Value} (hlen : ∀ sig, parseMethodDescriptor y.desc = some sig → argsL.length = sig.parameters.length)
    (hstack : g.stack = argsL.reverse ++ .ref b :: rest) (hW : 2 * g.monitorRoom + (rest.map fun v => v.category).sum ≤ W) (hdg : decode c.code g.pc = .ok (.invokevirtual index, 3))
    (hpre : ∀ vm₁, s.WarmedH vm₁ → Pre ⟨T.setVm vm₁, locs, cells, slots⟩ (Value.ref b :: argsL).toArray) :
    (∃ (v : Option Value) (vm₁ : Vm) (B : Pt), s.WarmedH vm₁ ∧ Stand p l e R s m args below meth c B.U B.locs B.cells B.slots ∧ Post ⟨T.setVm vm₁, locs, cells, slots⟩ (Value.ref b :: argsL).toArray v B ∧
      ∀ target, Steps p.tables e below (B.U.setTop { g with pc := g.pc + 3, stack := v.toList ++ rest }) target → Steps p.tables e below (T.setTop g) target) ∨
    (∃ (q : Addr) (vm₁ : Vm) (B : Pt), s.WarmedH vm₁ ∧ Stand p l e R s m args below meth c B.U B.locs B.cells B.slots ∧ PostX ⟨T.setVm vm₁, locs, cells, slots⟩ (Value.ref b :: argsL).toArray q B ∧
      Steps p.tables e below (T.setTop g) ((B.U.setTop { g with stack := rest }).pushFrame (.throwing q))) := by
  obtain ⟨mk, methM, hnamed, hmethM, hstM, habM⟩ := Cond.instanceMethod_spec hinst
  obtain ⟨methM', cM, hmethM', -, -, -, -, -, -, hsigM⟩ := Cond.code_spec hnamed hcode
  cases hmethM.symm.trans hmethM'
  obtain ⟨c2, r2, m2, q1, q2, q3, q4, kP, hkP, hkPi⟩ := Cond.selects_spec hsel
  cases hcls.symm.trans q1
  cases (State.methodFound?_of_named hnamed hy).symm.trans q2
  cases hnamed.symm.trans q3
  have hselP : selectMethod e.platform s.vm cellB.cls mk = .method mk := by rw [Launch.admits_selectMethod X.admits]; exact q4
  obtain ⟨vm₁, X₁, hstep₁⟩ := X.invokevirtualNest hexec hown hlink hnamed hmethM hstM hkP hkPi hy (a := b) (cell := cellB) hcell
    (fun z h => by rw [h] at hobj; cases hobj) hselP hmethM habM hkP hkPi (g := g) hg (argsL := argsL) (rest := rest) (hlen _ hsigM) hstack hdg
  rcases hK m meth c ⟨T.setVm vm₁, locs, cells, slots⟩ { g with stack := rest } (.invokevirtual index) mk (Value.ref b :: argsL).toArray X₁ hg hsize hdg hW (X₁.named hnamed) (hpre vm₁ X₁.warmed) with ⟨v, B, X', hpost, hsteps⟩ | ⟨q, B, X', hpost, hsteps⟩
  · exact Or.inl ⟨v, vm₁, B, X₁.warmed, X', hpost, fun target h => hstep₁ _ fun acts => by rw [doInvoke_state]; exact hsteps.trans h⟩
  · exact Or.inr ⟨q, vm₁, B, X₁.warmed, X', hpost, hstep₁ _ fun acts => by rw [doInvoke_state]; exact hsteps⟩
theorem vx_callSN (X : Stand p l e R s m args below meth c T locs cells slots) (hexec : p.tables.exec = Jvm.exec) {own : String} {index : Nat} {host : String} {y : MethodName} {bytes : ByteArray} {maxL : Nat} {ret : Option FieldType}
    (hown : s.vm.findClass own = some m.cls) (hlink : (Cond.methodLinkNest own index y host).before args s = true) (hstat : (Cond.static y).before args s = true) (hinit : (Cond.initialized y.cls).before args s = true)
    (hcode : (Cond.code y bytes maxL ret).before args s = true) (hy : y.cls ≠ "java/lang/invoke/MethodHandle" ∧ y.cls ≠ "java/lang/invoke/VarHandle")
    {W : Nat} {Pre : Pt → Array Value → Prop} {Post : Pt → Array Value → Option Value → Pt → Prop} {PostX : Pt → Array Value → Addr → Pt → Prop} (hK : vx_Back l R p e below s args y 3 W Pre Post PostX)
    {g : JFrame} (hg : g.method = m) (hsize : g.locals.size = c.maxLocals) {argsL rest : List Value} (hlen : ∀ sig, parseMethodDescriptor y.desc = some sig → argsL.length = sig.parameters.length)
    (hstack : g.stack = argsL.reverse ++ rest) (hW : 2 * g.monitorRoom + (rest.map fun v => v.category).sum ≤ W) (hdg : decode c.code g.pc = .ok (.invokestatic index, 3))
    (hpre : ∀ vm₁, s.WarmedH vm₁ → Pre ⟨T.setVm vm₁, locs, cells, slots⟩ argsL.toArray) :
    (∃ (v : Option Value) (vm₁ : Vm) (B : Pt), s.WarmedH vm₁ ∧ Stand p l e R s m args below meth c B.U B.locs B.cells B.slots ∧ Post ⟨T.setVm vm₁, locs, cells, slots⟩ argsL.toArray v B ∧
      ∀ target, Steps p.tables e below (B.U.setTop { g with pc := g.pc + 3, stack := v.toList ++ rest }) target → Steps p.tables e below (T.setTop g) target) ∨
    (∃ (q : Addr) (vm₁ : Vm) (B : Pt), s.WarmedH vm₁ ∧ Stand p l e R s m args below meth c B.U B.locs B.cells B.slots ∧ PostX ⟨T.setVm vm₁, locs, cells, slots⟩ argsL.toArray q B ∧
      Steps p.tables e below (T.setTop g) ((B.U.setTop { g with stack := rest }).pushFrame (.throwing q))) := by
  obtain ⟨mk, hnamed⟩ := Cond.code_named hcode
  obtain ⟨methM, cM, hmethM, -, -, -, -, -, -, hsigM⟩ := Cond.code_spec hnamed hcode
  have hstatic : methM.isStatic = true := Cond.static_spec hnamed hmethM hstat
  obtain ⟨kP, hkP, -⟩ := className_of_methodNamed hnamed
  have hinitP : kP.init = .initialized := Cond.initialized_spec (findClass_of_methodNamed hnamed) hkP hinit
  obtain ⟨vm₁, X₁, hstep₁⟩ := X.invokestaticNest hexec hown hlink hnamed hmethM hstatic hkP hinitP hy (g := g) hg (argsL := argsL) (rest := rest) (hlen _ hsigM) hstack hdg
  rcases hK m meth c ⟨T.setVm vm₁, locs, cells, slots⟩ { g with stack := rest } (.invokestatic index) mk argsL.toArray X₁ hg hsize hdg hW (X₁.named hnamed) (hpre vm₁ X₁.warmed) with ⟨v, B, X', hpost, hsteps⟩ | ⟨q, B, X', hpost, hsteps⟩
  · exact Or.inl ⟨v, vm₁, B, X₁.warmed, X', hpost, fun target h => hstep₁ _ fun acts => by rw [doInvoke_state]; exact hsteps.trans h⟩
  · exact Or.inr ⟨q, vm₁, B, X₁.warmed, X', hpost, hstep₁ _ fun acts => by rw [doInvoke_state]; exact hsteps⟩
theorem vx_runVN {y : MethodName} {bytes cc : ByteArray} {maxL nL mc ms n index : Nat} {ret : Option FieldType} {ws : List Cond} {rm : Room} {Pc : Array Value → State → Prop} {Qc : Array Value → State → Outcome → State → Prop} {XC : String → State → State → Prop} {free : Addr → Prop} {Ts : List Cond} {own C host : String} {b : Addr} {As rest : List Value} {g : JFrame}
    (S : CallFix p m c cc nL s args Ts own) (hM : vx_Met l y ws rm Pc Qc XC mc ms free) (cw : va_CN R s args own index y host bytes maxL ret ws rm mc ms n ∧ (Cond.instanceMethod y).before args s = true ∧ (Cond.selects C y y).before args s = true) (hp : PreV s H C b Pc As)
    (hg : g.method = m) (hn : As.length = n) (hsize : g.locals.size = nL) (hstack : g.stack = As.reverse ++ .ref b :: rest) (hW : 2 * g.monitorRoom + (rest.map fun v => v.category).sum ≤ 8) (hdg : decode cc g.pc = .ok (.invokevirtual index, 3)) (hf : cells + mc ≤ R.cells ∧ slots + ms ≤ R.slots) :
    vx_Run p l e R s m args below meth c H locs cells slots mc ms g rest (Qc (Value.ref b :: As).toArray) XC free := by
  obtain ⟨⟨⟨hrc, hrs, hfr, hlo, hws, hcw⟩, hcode, hini, hy, hlen, hl⟩, hx1, hx2⟩ := cw
  have hK : vx_Back l R p e below s args y 3 8 (PreOf R mc ms Pc) (PostOf Qc mc ms free) (vx_Post XC mc ms free) := vx_back (bytes := bytes) (maxL := maxL) (ret := ret) hM hp.1 hrc hrs hfr hlo hws hcw (fun a' U hW => word_at hW (Or.inl (by first | rfl | simp [Cond.onTables, Cond.keeps, Cond.steady])) hini)
  obtain ⟨hx, hb, hml, ho, -⟩ := S
  obtain ⟨-, ⟨cellB, hcB, hoB, hclB⟩, hPc⟩ := hp
  intro T hT X
  rcases vx_callVN X hx (C := C) (bytes := bytes) (maxL := maxL) (ret := ret) ho hl hx1 hx2 hcode hy hK (by rw [hT]; exact hcB) hoB hclB hg (hsize.trans hml.symm) (argsL := As) (rest := rest) (fun sig h => hn.trans (hlen sig h)) hstack hW (by rw [hb]; exact hdg)
    (fun vm₁ hW₁ => ⟨hf.1, hf.2, hPc (T.setVm vm₁) hT hW₁⟩) with ⟨v, vm₁, ⟨U', l2, c2, s2⟩, hW₁, X', ⟨g', mk, t, L, e1, e2, hq, h1, hL, h2, h3⟩, st⟩ | ⟨q, vm₁, ⟨U', l2, c2, s2⟩, hW₁, X', ⟨g', mk, t, L, E, ce, e1, e2, hq, hce, hcv, hcl, h1, hL, h2, h3⟩, st⟩
  · dsimp only [Pt.U, Pt.locs, Pt.cells, Pt.slots] at X' e1 e2 h1 h2 h3 st
    subst h1; subst h2; subst h3
    exact Or.inl ⟨v, (T.setVm vm₁).calling g' mk (Value.ref b :: As).toArray, t, U', L, hT, X', hL, e1, e2, hq, st⟩
  · dsimp only [Pt.U, Pt.locs, Pt.cells, Pt.slots] at X' e1 e2 h1 h2 h3 st hcl
    subst h1; subst h2; subst h3
    exact Or.inr ⟨q, (T.setVm vm₁).calling g' mk (Value.ref b :: As).toArray, t, U', L, E, ce, hT, X', hL, e1, e2, hq, hce, hcv, vx_cls hW₁ hcl, st⟩
theorem vx_runSN {y : MethodName} {bytes cc : ByteArray} {maxL nL mc ms n index : Nat} {ret : Option FieldType} {ws : List Cond} {rm : Room} {Pc : Array Value → State → Prop} {Qc : Array Value → State → Outcome → State → Prop} {XC : String → State → State → Prop} {free : Addr → Prop} {Ts : List Cond} {own host : String} {As rest : List Value} {g : JFrame}
    (S : CallFix p m c cc nL s args Ts own) (hM : vx_Met l y ws rm Pc Qc XC mc ms free) (cw : va_CN R s args own index y host bytes maxL ret ws rm mc ms n ∧ (Cond.static y).before args s = true ∧ True) (hp : PreS s H Pc As)
    (hg : g.method = m) (hn : As.length = n) (hsize : g.locals.size = nL) (hstack : g.stack = As.reverse ++ rest) (hW : 2 * g.monitorRoom + (rest.map fun v => v.category).sum ≤ 8) (hdg : decode cc g.pc = .ok (.invokestatic index, 3)) (hf : cells + mc ≤ R.cells ∧ slots + ms ≤ R.slots) :
    vx_Run p l e R s m args below meth c H locs cells slots mc ms g rest (Qc As.toArray) XC free := by
  obtain ⟨⟨⟨hrc, hrs, hfr, hlo, hws, hcw⟩, hcode, hini, hy, hlen, hl⟩, hx1, hx2⟩ := cw
  have hK : vx_Back l R p e below s args y 3 8 (PreOf R mc ms Pc) (PostOf Qc mc ms free) (vx_Post XC mc ms free) := vx_back (bytes := bytes) (maxL := maxL) (ret := ret) hM hp.1 hrc hrs hfr hlo hws hcw (fun a' U hW => word_at hW (Or.inl (by first | rfl | simp [Cond.onTables, Cond.keeps, Cond.steady])) hini)
  obtain ⟨hx, hb, hml, ho, -⟩ := S
  have hPc := hp.2
  intro T hT X
  rcases vx_callSN X hx (bytes := bytes) (maxL := maxL) (ret := ret) ho hl hx1 hini hcode hy hK hg (hsize.trans hml.symm) (argsL := As) (rest := rest) (fun sig h => hn.trans (hlen sig h)) hstack hW (by rw [hb]; exact hdg)
    (fun vm₁ hW₁ => ⟨hf.1, hf.2, hPc (T.setVm vm₁) hT hW₁⟩) with ⟨v, vm₁, ⟨U', l2, c2, s2⟩, hW₁, X', ⟨g', mk, t, L, e1, e2, hq, h1, hL, h2, h3⟩, st⟩ | ⟨q, vm₁, ⟨U', l2, c2, s2⟩, hW₁, X', ⟨g', mk, t, L, E, ce, e1, e2, hq, hce, hcv, hcl, h1, hL, h2, h3⟩, st⟩
  · dsimp only [Pt.U, Pt.locs, Pt.cells, Pt.slots] at X' e1 e2 h1 h2 h3 st
    subst h1; subst h2; subst h3
    exact Or.inl ⟨v, (T.setVm vm₁).calling g' mk As.toArray, t, U', L, hT, X', hL, e1, e2, hq, st⟩
  · dsimp only [Pt.U, Pt.locs, Pt.cells, Pt.slots] at X' e1 e2 h1 h2 h3 st hcl
    subst h1; subst h2; subst h3
    exact Or.inr ⟨q, (T.setVm vm₁).calling g' mk As.toArray, t, U', L, E, ce, hT, X', hL, e1, e2, hq, hce, hcv, vx_cls hW₁ hcl, st⟩
end
/-! ===== END ===== -/
def RX0 : String := "MilkRound$Farms"
def TX0 : u_T := fun k => match k with
  | 0 => ("MilkRound$Farms", "count", "I", false)
  | 1 => ("MilkRound$Farms", "rooms", "[I", true)
  | 2 => ("MilkRound$Farms", "tanks", "[I", true)
  | 3 => ("MilkRound$Farms", "cows", "[I", true)
  | _ => ("MilkRound$Farms", "bests", "[[I", true)
def tyX0 : Nat → FieldType := fun k => match k with
  | 0 => .int
  | 1 => .array .int
  | 2 => .array .int
  | 3 => .array .int
  | _ => .array (.array .int)
abbrev wsX00 : List Cond := u_ws RX0 TX0 5
theorem nmX0 : ∀ a, a < 5 → ∀ b, b < 5 → a ≠ b → (TX0 a).2.1 ≠ (TX0 b).2.1 := by decide +kernel
theorem tyX0_ok : ∀ k, k < 5 → parseFieldDescriptor (TX0 k).2.2.1 = some (tyX0 k) := by decide +kernel
abbrev cX0_init : ByteArray := prog_2_method_1_code
def yX0_init : MethodName := ⟨RX0, "<init>", "()V"⟩
abbrev cX0_add : ByteArray := prog_2_method_2_code
def yX0_add : MethodName := ⟨RX0, "add", "(I)I"⟩
abbrev cX0_addCowTo : ByteArray := prog_2_method_3_code
def yX0_addCowTo : MethodName := ⟨RX0, "addCowTo", "(II)I"⟩
abbrev cX0_milkOn : ByteArray := prog_2_method_4_code
def yX0_milkOn : MethodName := ⟨RX0, "milkOn", "(II)I"⟩
abbrev cX0_milkOfCow : ByteArray := prog_2_method_5_code
def yX0_milkOfCow : MethodName := ⟨RX0, "milkOfCow", "(II)I"⟩
abbrev cX0_milkAll : ByteArray := prog_2_method_6_code
def yX0_milkAll : MethodName := ⟨RX0, "milkAll", "(I)I"⟩
abbrev cX0_draw : ByteArray := prog_2_method_7_code
def yX0_draw : MethodName := ⟨RX0, "draw", "(II)I"⟩
def RX1 : String := "MilkRound$Samples"
def TX1 : u_T := fun k => match k with
  | 0 => ("MilkRound$Samples", "count", "I", false)
  | 1 => ("MilkRound$Samples", "farm", "[I", true)
  | 2 => ("MilkRound$Samples", "amount", "[I", true)
  | 3 => ("MilkRound$Samples", "mark", "[C", true)
  | 4 => ("MilkRound$Samples", "place", "[C", true)
  | 5 => ("MilkRound$Samples", "number", "[I", true)
  | 6 => ("MilkRound$Samples", "paid", "[I", true)
  | _ => ("MilkRound$Samples", "blamed", "[I", true)
def tyX1 : Nat → FieldType := fun k => match k with
  | 0 => .int
  | 1 => .array .int
  | 2 => .array .int
  | 3 => .array .char
  | 4 => .array .char
  | 5 => .array .int
  | 6 => .array .int
  | _ => .array .int
abbrev wsX10 : List Cond := u_ws RX1 TX1 8
theorem nmX1 : ∀ a, a < 8 → ∀ b, b < 8 → a ≠ b → (TX1 a).2.1 ≠ (TX1 b).2.1 := by decide +kernel
theorem tyX1_ok : ∀ k, k < 8 → parseFieldDescriptor (TX1 k).2.2.1 = some (tyX1 k) := by decide +kernel
abbrev cX1_init : ByteArray := prog_3_method_1_code
def yX1_init : MethodName := ⟨RX1, "<init>", "()V"⟩
abbrev cX1_add : ByteArray := prog_3_method_2_code
def yX1_add : MethodName := ⟨RX1, "add", "(II)V"⟩
abbrev cX1_isIn : ByteArray := prog_3_method_3_code
def yX1_isIn : MethodName := ⟨RX1, "isIn", "(ICI)Z"⟩
abbrev cX1_move : ByteArray := prog_3_method_4_code
def yX1_move : MethodName := ⟨RX1, "move", "(CICI)V"⟩
abbrev cX1_countIn : ByteArray := prog_3_method_5_code
def yX1_countIn : MethodName := ⟨RX1, "countIn", "(CI)I"⟩
abbrev cX1_litresIn : ByteArray := prog_3_method_6_code
def yX1_litresIn : MethodName := ⟨RX1, "litresIn", "(CI)I"⟩
abbrev cX1_allLitres : ByteArray := prog_3_method_7_code
def yX1_allLitres : MethodName := ⟨RX1, "allLitres", "()I"⟩
abbrev cX1_ungraded : ByteArray := prog_3_method_8_code
def yX1_ungraded : MethodName := ⟨RX1, "ungraded", "()I"⟩
abbrev cX1_shareAt : ByteArray := prog_3_method_9_code
def yX1_shareAt : MethodName := ⟨RX1, "shareAt", "(II)I"⟩
abbrev cX1_isGraded : ByteArray := prog_3_method_10_code
def yX1_isGraded : MethodName := ⟨RX1, "isGraded", "(I)Z"⟩
abbrev cX1_isSpoilt : ByteArray := prog_3_method_11_code
def yX1_isSpoilt : MethodName := ⟨RX1, "isSpoilt", "(I)Z"⟩
abbrev cX1_isSpoiltIn : ByteArray := prog_3_method_12_code
def yX1_isSpoiltIn : MethodName := ⟨RX1, "isSpoiltIn", "(II)Z"⟩
abbrev cX1_spoiltLitres : ByteArray := prog_3_method_13_code
def yX1_spoiltLitres : MethodName := ⟨RX1, "spoiltLitres", "(I)I"⟩
abbrev cX1_centsALitre : ByteArray := prog_3_method_14_code
def yX1_centsALitre : MethodName := ⟨RX1, "centsALitre", "(C)I"⟩
abbrev cX1_valueOfSample : ByteArray := prog_3_method_15_code
def yX1_valueOfSample : MethodName := ⟨RX1, "valueOfSample", "(I)I"⟩
abbrev cX1_valueOf : ByteArray := prog_3_method_16_code
def yX1_valueOf : MethodName := ⟨RX1, "valueOf", "(I)I"⟩
abbrev cX1_payOfAll : ByteArray := prog_3_method_17_code
def yX1_payOfAll : MethodName := ⟨RX1, "payOfAll", "(I)I"⟩
abbrev cX1_lossOf : ByteArray := prog_3_method_18_code
def yX1_lossOf : MethodName := ⟨RX1, "lossOf", "(I)I"⟩
abbrev cX1_settle : ByteArray := prog_3_method_19_code
def yX1_settle : MethodName := ⟨RX1, "settle", "(I)V"⟩
abbrev cX1_settlePay : ByteArray := prog_3_method_20_code
def yX1_settlePay : MethodName := ⟨RX1, "settlePay", "(I)V"⟩
abbrev cX1_settleBlame : ByteArray := prog_3_method_21_code
def yX1_settleBlame : MethodName := ⟨RX1, "settleBlame", "(II)V"⟩
abbrev cX1_paidTo : ByteArray := prog_3_method_22_code
def yX1_paidTo : MethodName := ⟨RX1, "paidTo", "(II)I"⟩
abbrev cX1_blamedOn : ByteArray := prog_3_method_23_code
def yX1_blamedOn : MethodName := ⟨RX1, "blamedOn", "(II)I"⟩
abbrev cX1_balanceOf : ByteArray := prog_3_method_24_code
def yX1_balanceOf : MethodName := ⟨RX1, "balanceOf", "(I)J"⟩
def RX2 : String := "MilkRound"
def TX2 : u_T := fun k => match k with
  | 0 => ("MilkRound", "today", "I", false)
  | 1 => ("MilkRound", "farms", "LMilkRound$Farms;", true)
  | 2 => ("MilkRound", "vatCount", "I", false)
  | 3 => ("MilkRound", "vatRooms", "[I", true)
  | 4 => ("MilkRound", "rounds", "I", false)
  | 5 => ("MilkRound", "roundUnderWay", "Z", false)
  | 6 => ("MilkRound", "visited", "[Z", true)
  | 7 => ("MilkRound", "taken", "LMilkRound$Samples;", true)
  | _ => ("MilkRound", "batchCount", "I", false)
def tyX2 : Nat → FieldType := fun k => match k with
  | 0 => .int
  | 1 => .object "MilkRound$Farms"
  | 2 => .int
  | 3 => .array .int
  | 4 => .int
  | 5 => .boolean
  | 6 => .array .boolean
  | 7 => .object "MilkRound$Samples"
  | _ => .int
abbrev wsX20 : List Cond := u_ws RX2 TX2 9
theorem nmX2 : ∀ a, a < 9 → ∀ b, b < 9 → a ≠ b → (TX2 a).2.1 ≠ (TX2 b).2.1 := by decide +kernel
theorem tyX2_ok : ∀ k, k < 9 → parseFieldDescriptor (TX2 k).2.2.1 = some (tyX2 k) := by decide +kernel
abbrev cX2_init : ByteArray := prog_1_method_1_code
def yX2_init : MethodName := ⟨RX2, "<init>", "()V"⟩
abbrev cX2_addFarm : ByteArray := prog_1_method_2_code
def yX2_addFarm : MethodName := ⟨RX2, "addFarm", "(I)I"⟩
abbrev cX2_addCow : ByteArray := prog_1_method_3_code
def yX2_addCow : MethodName := ⟨RX2, "addCow", "(II)I"⟩
abbrev cX2_milkOf : ByteArray := prog_1_method_4_code
def yX2_milkOf : MethodName := ⟨RX2, "milkOf", "(II)I"⟩
abbrev cX2_inTank : ByteArray := prog_1_method_5_code
def yX2_inTank : MethodName := ⟨RX2, "inTank", "(I)I"⟩
abbrev cX2_pass : ByteArray := prog_1_method_6_code
def yX2_pass : MethodName := ⟨RX2, "pass", "(I)I"⟩
abbrev cX2_day : ByteArray := prog_1_method_7_code
def yX2_day : MethodName := ⟨RX2, "day", "()I"⟩
abbrev cX2_addVat : ByteArray := prog_1_method_8_code
def yX2_addVat : MethodName := ⟨RX2, "addVat", "(I)I"⟩
abbrev cX2_beginRound : ByteArray := prog_1_method_9_code
def yX2_beginRound : MethodName := ⟨RX2, "beginRound", "()I"⟩
abbrev cX2_visit : ByteArray := prog_1_method_10_code
def yX2_visit : MethodName := ⟨RX2, "visit", "(I)I"⟩
abbrev cX2_endRound : ByteArray := prog_1_method_11_code
def yX2_endRound : MethodName := ⟨RX2, "endRound", "(I)I"⟩
abbrev cX2_inTanker : ByteArray := prog_1_method_12_code
def yX2_inTanker : MethodName := ⟨RX2, "inTanker", "()I"⟩
abbrev cX2_inVat : ByteArray := prog_1_method_13_code
def yX2_inVat : MethodName := ⟨RX2, "inVat", "(I)I"⟩
abbrev cX2_bestVat : ByteArray := prog_1_method_14_code
def yX2_bestVat : MethodName := ⟨RX2, "bestVat", "()I"⟩
abbrev cX2_close : ByteArray := prog_1_method_15_code
def yX2_close : MethodName := ⟨RX2, "close", "(I)I"⟩
abbrev cX2_samples : ByteArray := prog_1_method_16_code
def yX2_samples : MethodName := ⟨RX2, "samples", "()I"⟩
abbrev cX2_farmOf : ByteArray := prog_1_method_17_code
def yX2_farmOf : MethodName := ⟨RX2, "farmOf", "(I)I"⟩
abbrev cX2_litres : ByteArray := prog_1_method_18_code
def yX2_litres : MethodName := ⟨RX2, "litres", "(I)I"⟩
abbrev cX2_grade : ByteArray := prog_1_method_19_code
def yX2_grade : MethodName := ⟨RX2, "grade", "(IC)I"⟩
abbrev cX2_gradeOf : ByteArray := prog_1_method_20_code
def yX2_gradeOf : MethodName := ⟨RX2, "gradeOf", "(I)C"⟩
abbrev cX2_batches : ByteArray := prog_1_method_21_code
def yX2_batches : MethodName := ⟨RX2, "batches", "()I"⟩
abbrev cX2_stateOf : ByteArray := prog_1_method_22_code
def yX2_stateOf : MethodName := ⟨RX2, "stateOf", "(I)C"⟩
abbrev cX2_share : ByteArray := prog_1_method_23_code
def yX2_share : MethodName := ⟨RX2, "share", "(II)I"⟩
abbrev cX2_worth : ByteArray := prog_1_method_24_code
def yX2_worth : MethodName := ⟨RX2, "worth", "(I)I"⟩
abbrev cX2_loss : ByteArray := prog_1_method_25_code
def yX2_loss : MethodName := ⟨RX2, "loss", "(I)I"⟩
abbrev cX2_pay : ByteArray := prog_1_method_26_code
def yX2_pay : MethodName := ⟨RX2, "pay", "(I)J"⟩
abbrev cX2_blame : ByteArray := prog_1_method_27_code
def yX2_blame : MethodName := ⟨RX2, "blame", "(I)J"⟩
abbrev cX2_balanceBySamples : ByteArray := prog_1_method_28_code
def yX2_balanceBySamples : MethodName := ⟨RX2, "balanceBySamples", "(I)J"⟩
abbrev cX2_wayOf : ByteArray := prog_1_method_29_code
def yX2_wayOf : MethodName := ⟨RX2, "wayOf", "(I)C"⟩
abbrev cX2_spoiltShare : ByteArray := prog_1_method_30_code
def yX2_spoiltShare : MethodName := ⟨RX2, "spoiltShare", "()F"⟩
abbrev cX2_meanPay : ByteArray := prog_1_method_31_code
def yX2_meanPay : MethodName := ⟨RX2, "meanPay", "()D"⟩
abbrev cX2_freeRoom : ByteArray := prog_1_method_32_code
def yX2_freeRoom : MethodName := ⟨RX2, "freeRoom", "(I)I"⟩
abbrev cX2_requireFarm : ByteArray := prog_1_method_33_code
def yX2_requireFarm : MethodName := ⟨RX2, "requireFarm", "(I)V"⟩
abbrev cX2_requireVat : ByteArray := prog_1_method_34_code
def yX2_requireVat : MethodName := ⟨RX2, "requireVat", "(I)V"⟩
abbrev cX2_requireSample : ByteArray := prog_1_method_35_code
def yX2_requireSample : MethodName := ⟨RX2, "requireSample", "(I)V"⟩
abbrev cX2_requireBatch : ByteArray := prog_1_method_36_code
def yX2_requireBatch : MethodName := ⟨RX2, "requireBatch", "(I)V"⟩
abbrev cX2_requireGradedBatch : ByteArray := prog_1_method_37_code
def yX2_requireGradedBatch : MethodName := ⟨RX2, "requireGradedBatch", "(I)V"⟩
def RX3 : String := "MilkRoundModel"
def TX3 : u_T := fun k => match k with
  | 0 => ("MilkRoundModel", "day", "I", false)
  | 1 => ("MilkRoundModel", "rooms", "[I", true)
  | 2 => ("MilkRoundModel", "tanks", "[I", true)
  | 3 => ("MilkRoundModel", "bests", "[I", true)
  | 4 => ("MilkRoundModel", "cows", "[I", true)
  | 5 => ("MilkRoundModel", "farms", "I", false)
  | 6 => ("MilkRoundModel", "vatRooms", "[I", true)
  | 7 => ("MilkRoundModel", "inVats", "[I", true)
  | 8 => ("MilkRoundModel", "vatShares", "[I", true)
  | 9 => ("MilkRoundModel", "vats", "I", false)
  | 10 => ("MilkRoundModel", "isUnderWay", "Z", false)
  | 11 => ("MilkRoundModel", "isVisited", "[Z", true)
  | 12 => ("MilkRoundModel", "rounds", "I", false)
  | 13 => ("MilkRoundModel", "inTanker", "I", false)
  | 14 => ("MilkRoundModel", "farmOf", "[I", true)
  | 15 => ("MilkRoundModel", "litres", "[I", true)
  | 16 => ("MilkRoundModel", "grades", "[C", true)
  | 17 => ("MilkRoundModel", "ways", "[I", true)
  | 18 => ("MilkRoundModel", "samples", "I", false)
  | 19 => ("MilkRoundModel", "batches", "I", false)
  | _ => ("MilkRoundModel", "thrown", "I", false)
def tyX3 : Nat → FieldType := fun k => match k with
  | 0 => .int
  | 1 => .array .int
  | 2 => .array .int
  | 3 => .array .int
  | 4 => .array .int
  | 5 => .int
  | 6 => .array .int
  | 7 => .array .int
  | 8 => .array .int
  | 9 => .int
  | 10 => .boolean
  | 11 => .array .boolean
  | 12 => .int
  | 13 => .int
  | 14 => .array .int
  | 15 => .array .int
  | 16 => .array .char
  | 17 => .array .int
  | 18 => .int
  | 19 => .int
  | _ => .int
abbrev wsX30 : List Cond := u_ws RX3 TX3 21
theorem nmX3 : ∀ a, a < 21 → ∀ b, b < 21 → a ≠ b → (TX3 a).2.1 ≠ (TX3 b).2.1 := by decide +kernel
theorem tyX3_ok : ∀ k, k < 21 → parseFieldDescriptor (TX3 k).2.2.1 = some (tyX3 k) := by decide +kernel
abbrev cX3_init : ByteArray := prog_5_method_1_code
def yX3_init : MethodName := ⟨RX3, "<init>", "()V"⟩
abbrev cX3_thrown : ByteArray := prog_5_method_2_code
def yX3_thrown : MethodName := ⟨RX3, "thrown", "()I"⟩
abbrev cX3_in : ByteArray := prog_5_method_3_code
def yX3_in : MethodName := ⟨RX3, "in", "(JJJ)Z"⟩
abbrev cX3_addFarm : ByteArray := prog_5_method_4_code
def yX3_addFarm : MethodName := ⟨RX3, "addFarm", "(I)I"⟩
abbrev cX3_isFarm : ByteArray := prog_5_method_5_code
def yX3_isFarm : MethodName := ⟨RX3, "isFarm", "(I)Z"⟩
abbrev cX3_addCow : ByteArray := prog_5_method_6_code
def yX3_addCow : MethodName := ⟨RX3, "addCow", "(II)I"⟩
abbrev cX3_gives : ByteArray := prog_5_method_7_code
def yX3_gives : MethodName := ⟨RX3, "gives", "(II)I"⟩
abbrev cX3_milkOf : ByteArray := prog_5_method_8_code
def yX3_milkOf : MethodName := ⟨RX3, "milkOf", "(II)I"⟩
abbrev cX3_inTank : ByteArray := prog_5_method_9_code
def yX3_inTank : MethodName := ⟨RX3, "inTank", "(I)I"⟩
abbrev cX3_pass : ByteArray := prog_5_method_10_code
def yX3_pass : MethodName := ⟨RX3, "pass", "(I)I"⟩
abbrev cX3_day : ByteArray := prog_5_method_11_code
def yX3_day : MethodName := ⟨RX3, "day", "()I"⟩
abbrev cX3_addVat : ByteArray := prog_5_method_12_code
def yX3_addVat : MethodName := ⟨RX3, "addVat", "(I)I"⟩
abbrev cX3_beginRound : ByteArray := prog_5_method_13_code
def yX3_beginRound : MethodName := ⟨RX3, "beginRound", "()I"⟩
abbrev cX3_visit : ByteArray := prog_5_method_14_code
def yX3_visit : MethodName := ⟨RX3, "visit", "(I)I"⟩
abbrev cX3_isVat : ByteArray := prog_5_method_15_code
def yX3_isVat : MethodName := ⟨RX3, "isVat", "(I)Z"⟩
abbrev cX3_onWay : ByteArray := prog_5_method_16_code
def yX3_onWay : MethodName := ⟨RX3, "onWay", "(I)I"⟩
abbrev cX3_endRound : ByteArray := prog_5_method_17_code
def yX3_endRound : MethodName := ⟨RX3, "endRound", "(I)I"⟩
abbrev cX3_inTanker : ByteArray := prog_5_method_18_code
def yX3_inTanker : MethodName := ⟨RX3, "inTanker", "()I"⟩
abbrev cX3_inVat : ByteArray := prog_5_method_19_code
def yX3_inVat : MethodName := ⟨RX3, "inVat", "(I)I"⟩
abbrev cX3_bestVat : ByteArray := prog_5_method_20_code
def yX3_bestVat : MethodName := ⟨RX3, "bestVat", "()I"⟩
abbrev cX3_close : ByteArray := prog_5_method_21_code
def yX3_close : MethodName := ⟨RX3, "close", "(I)I"⟩
abbrev cX3_samples : ByteArray := prog_5_method_22_code
def yX3_samples : MethodName := ⟨RX3, "samples", "()I"⟩
abbrev cX3_isSample : ByteArray := prog_5_method_23_code
def yX3_isSample : MethodName := ⟨RX3, "isSample", "(I)Z"⟩
abbrev cX3_farmOf : ByteArray := prog_5_method_24_code
def yX3_farmOf : MethodName := ⟨RX3, "farmOf", "(I)I"⟩
abbrev cX3_litres : ByteArray := prog_5_method_25_code
def yX3_litres : MethodName := ⟨RX3, "litres", "(I)I"⟩
abbrev cX3_grade : ByteArray := prog_5_method_26_code
def yX3_grade : MethodName := ⟨RX3, "grade", "(IC)I"⟩
abbrev cX3_gradeOf : ByteArray := prog_5_method_27_code
def yX3_gradeOf : MethodName := ⟨RX3, "gradeOf", "(I)C"⟩
abbrev cX3_batches : ByteArray := prog_5_method_28_code
def yX3_batches : MethodName := ⟨RX3, "batches", "()I"⟩
abbrev cX3_has : ByteArray := prog_5_method_29_code
def yX3_has : MethodName := ⟨RX3, "has", "(IC)Z"⟩
abbrev cX3_isBatch : ByteArray := prog_5_method_30_code
def yX3_isBatch : MethodName := ⟨RX3, "isBatch", "(I)Z"⟩
abbrev cX3_stateOf : ByteArray := prog_5_method_31_code
def yX3_stateOf : MethodName := ⟨RX3, "stateOf", "(I)C"⟩
abbrev cX3_share : ByteArray := prog_5_method_32_code
def yX3_share : MethodName := ⟨RX3, "share", "(II)I"⟩
abbrev cX3_worthOf : ByteArray := prog_5_method_33_code
def yX3_worthOf : MethodName := ⟨RX3, "worthOf", "(I)I"⟩
abbrev cX3_payOf : ByteArray := prog_5_method_34_code
def yX3_payOf : MethodName := ⟨RX3, "payOf", "(I)I"⟩
abbrev cX3_lossOf : ByteArray := prog_5_method_35_code
def yX3_lossOf : MethodName := ⟨RX3, "lossOf", "(I)I"⟩
abbrev cX3_blameOf : ByteArray := prog_5_method_36_code
def yX3_blameOf : MethodName := ⟨RX3, "blameOf", "(I)I"⟩
abbrev cX3_isGraded : ByteArray := prog_5_method_37_code
def yX3_isGraded : MethodName := ⟨RX3, "isGraded", "(I)Z"⟩
abbrev cX3_worth : ByteArray := prog_5_method_38_code
def yX3_worth : MethodName := ⟨RX3, "worth", "(I)I"⟩
abbrev cX3_loss : ByteArray := prog_5_method_39_code
def yX3_loss : MethodName := ⟨RX3, "loss", "(I)I"⟩
abbrev cX3_counts : ByteArray := prog_5_method_40_code
def yX3_counts : MethodName := ⟨RX3, "counts", "(II)Z"⟩
abbrev cX3_pay : ByteArray := prog_5_method_41_code
def yX3_pay : MethodName := ⟨RX3, "pay", "(I)J"⟩
abbrev cX3_blame : ByteArray := prog_5_method_42_code
def yX3_blame : MethodName := ⟨RX3, "blame", "(I)J"⟩
abbrev cX3_balanceBySamples : ByteArray := prog_5_method_43_code
def yX3_balanceBySamples : MethodName := ⟨RX3, "balanceBySamples", "(I)J"⟩
abbrev cX3_wayOf : ByteArray := prog_5_method_44_code
def yX3_wayOf : MethodName := ⟨RX3, "wayOf", "(I)C"⟩
abbrev cX3_spoiltShare : ByteArray := prog_5_method_45_code
def yX3_spoiltShare : MethodName := ⟨RX3, "spoiltShare", "()F"⟩
abbrev cX3_meanPay : ByteArray := prog_5_method_46_code
def yX3_meanPay : MethodName := ⟨RX3, "meanPay", "()D"⟩
def RL : String := "MilkRoundLaw"
abbrev cL_addFarm : ByteArray := method_3_code
def yL_addFarm : MethodName := ⟨RL, "addFarm", "(LMilkRound;I[J)I"⟩
abbrev cL_addCow : ByteArray := method_4_code
def yL_addCow : MethodName := ⟨RL, "addCow", "(LMilkRound;II[J)I"⟩
abbrev cL_milkOf : ByteArray := method_5_code
def yL_milkOf : MethodName := ⟨RL, "milkOf", "(LMilkRound;II[J)I"⟩
abbrev cL_inTank : ByteArray := method_6_code
def yL_inTank : MethodName := ⟨RL, "inTank", "(LMilkRound;I[J)I"⟩
abbrev cL_pass : ByteArray := method_7_code
def yL_pass : MethodName := ⟨RL, "pass", "(LMilkRound;I[J)I"⟩
abbrev cL_addVat : ByteArray := method_8_code
def yL_addVat : MethodName := ⟨RL, "addVat", "(LMilkRound;I[J)I"⟩
abbrev cL_beginRound : ByteArray := method_9_code
def yL_beginRound : MethodName := ⟨RL, "beginRound", "(LMilkRound;[J)I"⟩
abbrev cL_visit : ByteArray := method_10_code
def yL_visit : MethodName := ⟨RL, "visit", "(LMilkRound;I[J)I"⟩
abbrev cL_endRound : ByteArray := method_11_code
def yL_endRound : MethodName := ⟨RL, "endRound", "(LMilkRound;I[J)I"⟩
abbrev cL_inVat : ByteArray := method_12_code
def yL_inVat : MethodName := ⟨RL, "inVat", "(LMilkRound;I[J)I"⟩
abbrev cL_bestVat : ByteArray := method_13_code
def yL_bestVat : MethodName := ⟨RL, "bestVat", "(LMilkRound;[J)I"⟩
abbrev cL_close : ByteArray := method_14_code
def yL_close : MethodName := ⟨RL, "close", "(LMilkRound;I[J)I"⟩
abbrev cL_farmOf : ByteArray := method_15_code
def yL_farmOf : MethodName := ⟨RL, "farmOf", "(LMilkRound;I[J)I"⟩
abbrev cL_litres : ByteArray := method_16_code
def yL_litres : MethodName := ⟨RL, "litres", "(LMilkRound;I[J)I"⟩
abbrev cL_grade : ByteArray := method_17_code
def yL_grade : MethodName := ⟨RL, "grade", "(LMilkRound;IC[J)I"⟩
abbrev cL_gradeOf : ByteArray := method_18_code
def yL_gradeOf : MethodName := ⟨RL, "gradeOf", "(LMilkRound;I[J)I"⟩
abbrev cL_stateOf : ByteArray := method_19_code
def yL_stateOf : MethodName := ⟨RL, "stateOf", "(LMilkRound;I[J)I"⟩
abbrev cL_share : ByteArray := method_20_code
def yL_share : MethodName := ⟨RL, "share", "(LMilkRound;II[J)I"⟩
abbrev cL_worth : ByteArray := method_21_code
def yL_worth : MethodName := ⟨RL, "worth", "(LMilkRound;I[J)I"⟩
abbrev cL_loss : ByteArray := method_22_code
def yL_loss : MethodName := ⟨RL, "loss", "(LMilkRound;I[J)I"⟩
abbrev cL_pay : ByteArray := method_23_code
def yL_pay : MethodName := ⟨RL, "pay", "(LMilkRound;I[J)I"⟩
abbrev cL_blame : ByteArray := method_24_code
def yL_blame : MethodName := ⟨RL, "blame", "(LMilkRound;I[J)I"⟩
abbrev cL_balanceBySamples : ByteArray := method_25_code
def yL_balanceBySamples : MethodName := ⟨RL, "balanceBySamples", "(LMilkRound;I[J)I"⟩
abbrev cL_wayOf : ByteArray := method_26_code
def yL_wayOf : MethodName := ⟨RL, "wayOf", "(LMilkRound;I[J)I"⟩
abbrev cL_spoiltShare : ByteArray := method_27_code
def yL_spoiltShare : MethodName := ⟨RL, "spoiltShare", "(LMilkRound;[D)I"⟩
abbrev cL_meanPay : ByteArray := method_28_code
def yL_meanPay : MethodName := ⟨RL, "meanPay", "(LMilkRound;[D)I"⟩
abbrev cL_law : ByteArray := code
def yL_law : MethodName := ⟨RL, "law", "([I)Z"⟩
abbrev kCl : List vw_C := [(RX0, TX0, 5), (RX1, TX1, 8), (RX2, TX2, 9), (RX3, TX3, 21)]
end
section
def lw_all : List Cond := lw_tbl.filter goodWord
theorem lw_all_tbl {w : Cond} (h : w ∈ lw_all) : w ∈ lw_tbl := (List.mem_filter.mp h).1
theorem lw_all_good : GoodIn lw_all lw_all := fun w h => ⟨h, good_of_word (List.mem_filter.mp h).2⟩
theorem qs_0 : Cond.selects "MilkRound$Samples" yX1_litresIn yX1_litresIn ∈ lw_all := List.mem_filter.mpr ⟨List.mem_of_getElem? (i := 0) (by decide +kernel), by decide +kernel⟩
theorem qs_1 : Cond.selects "MilkRound$Samples" yX1_isIn yX1_isIn ∈ lw_all := List.mem_filter.mpr ⟨List.mem_of_getElem? (i := 1) (by decide +kernel), by decide +kernel⟩
theorem qs_2 : Cond.selects "java/lang/Throwable" ⟨"java/lang/Throwable", "fillInStackTrace", "(I)Ljava/lang/Throwable;"⟩ ⟨"java/lang/Throwable", "fillInStackTrace", "(I)Ljava/lang/Throwable;"⟩ ∈ lw_all := List.mem_filter.mpr ⟨List.mem_of_getElem? (i := 2) (by decide +kernel), by decide +kernel⟩
theorem qs_3 : Cond.selects "MilkRound$Farms" yX0_add yX0_add ∈ lw_all := List.mem_filter.mpr ⟨List.mem_of_getElem? (i := 3) (by decide +kernel), by decide +kernel⟩
theorem qs_4 : Cond.selects "MilkRound" yX2_requireFarm yX2_requireFarm ∈ lw_all := List.mem_filter.mpr ⟨List.mem_of_getElem? (i := 4) (by decide +kernel), by decide +kernel⟩
theorem qs_5 : Cond.selects "MilkRound$Farms" yX0_addCowTo yX0_addCowTo ∈ lw_all := List.mem_filter.mpr ⟨List.mem_of_getElem? (i := 5) (by decide +kernel), by decide +kernel⟩
theorem qs_6 : Cond.selects "MilkRound$Farms" yX0_milkOn yX0_milkOn ∈ lw_all := List.mem_filter.mpr ⟨List.mem_of_getElem? (i := 6) (by decide +kernel), by decide +kernel⟩
theorem qs_7 : Cond.selects "MilkRound$Farms" yX0_milkAll yX0_milkAll ∈ lw_all := List.mem_filter.mpr ⟨List.mem_of_getElem? (i := 7) (by decide +kernel), by decide +kernel⟩
theorem qs_8 : Cond.selects "MilkRound$Farms" yX0_draw yX0_draw ∈ lw_all := List.mem_filter.mpr ⟨List.mem_of_getElem? (i := 8) (by decide +kernel), by decide +kernel⟩
theorem qs_9 : Cond.selects "MilkRound$Samples" yX1_add yX1_add ∈ lw_all := List.mem_filter.mpr ⟨List.mem_of_getElem? (i := 9) (by decide +kernel), by decide +kernel⟩
theorem qs_10 : Cond.selects "MilkRound" yX2_requireVat yX2_requireVat ∈ lw_all := List.mem_filter.mpr ⟨List.mem_of_getElem? (i := 10) (by decide +kernel), by decide +kernel⟩
theorem qs_11 : Cond.selects "MilkRound" yX2_freeRoom yX2_freeRoom ∈ lw_all := List.mem_filter.mpr ⟨List.mem_of_getElem? (i := 11) (by decide +kernel), by decide +kernel⟩
theorem qs_12 : Cond.selects "MilkRound$Samples" yX1_countIn yX1_countIn ∈ lw_all := List.mem_filter.mpr ⟨List.mem_of_getElem? (i := 12) (by decide +kernel), by decide +kernel⟩
theorem qs_13 : Cond.selects "MilkRound$Samples" yX1_move yX1_move ∈ lw_all := List.mem_filter.mpr ⟨List.mem_of_getElem? (i := 13) (by decide +kernel), by decide +kernel⟩
theorem qs_14 : Cond.selects "MilkRound$Samples" yX1_settle yX1_settle ∈ lw_all := List.mem_filter.mpr ⟨List.mem_of_getElem? (i := 14) (by decide +kernel), by decide +kernel⟩
theorem qs_15 : Cond.selects "MilkRound$Samples" yX1_isGraded yX1_isGraded ∈ lw_all := List.mem_filter.mpr ⟨List.mem_of_getElem? (i := 15) (by decide +kernel), by decide +kernel⟩
theorem qs_16 : Cond.selects "MilkRound$Samples" yX1_spoiltLitres yX1_spoiltLitres ∈ lw_all := List.mem_filter.mpr ⟨List.mem_of_getElem? (i := 16) (by decide +kernel), by decide +kernel⟩
theorem qs_17 : Cond.selects "MilkRound$Samples" yX1_isSpoiltIn yX1_isSpoiltIn ∈ lw_all := List.mem_filter.mpr ⟨List.mem_of_getElem? (i := 17) (by decide +kernel), by decide +kernel⟩
theorem qs_18 : Cond.selects "MilkRound$Samples" yX1_settleBlame yX1_settleBlame ∈ lw_all := List.mem_filter.mpr ⟨List.mem_of_getElem? (i := 18) (by decide +kernel), by decide +kernel⟩
theorem qs_19 : Cond.selects "MilkRound$Samples" yX1_lossOf yX1_lossOf ∈ lw_all := List.mem_filter.mpr ⟨List.mem_of_getElem? (i := 19) (by decide +kernel), by decide +kernel⟩
theorem qs_20 : Cond.selects "MilkRound$Samples" yX1_isSpoilt yX1_isSpoilt ∈ lw_all := List.mem_filter.mpr ⟨List.mem_of_getElem? (i := 20) (by decide +kernel), by decide +kernel⟩
theorem qs_21 : Cond.selects "MilkRound$Samples" yX1_valueOf yX1_valueOf ∈ lw_all := List.mem_filter.mpr ⟨List.mem_of_getElem? (i := 21) (by decide +kernel), by decide +kernel⟩
theorem qs_22 : Cond.selects "MilkRound$Samples" yX1_valueOfSample yX1_valueOfSample ∈ lw_all := List.mem_filter.mpr ⟨List.mem_of_getElem? (i := 22) (by decide +kernel), by decide +kernel⟩
theorem qs_23 : Cond.selects "MilkRound$Samples" yX1_settlePay yX1_settlePay ∈ lw_all := List.mem_filter.mpr ⟨List.mem_of_getElem? (i := 23) (by decide +kernel), by decide +kernel⟩
theorem qs_24 : Cond.selects "MilkRound" yX2_requireSample yX2_requireSample ∈ lw_all := List.mem_filter.mpr ⟨List.mem_of_getElem? (i := 24) (by decide +kernel), by decide +kernel⟩
theorem qs_25 : Cond.selects "MilkRound$Samples" yX1_ungraded yX1_ungraded ∈ lw_all := List.mem_filter.mpr ⟨List.mem_of_getElem? (i := 25) (by decide +kernel), by decide +kernel⟩
theorem qs_26 : Cond.selects "MilkRound" yX2_requireBatch yX2_requireBatch ∈ lw_all := List.mem_filter.mpr ⟨List.mem_of_getElem? (i := 26) (by decide +kernel), by decide +kernel⟩
theorem qs_27 : Cond.selects "MilkRound$Samples" yX1_shareAt yX1_shareAt ∈ lw_all := List.mem_filter.mpr ⟨List.mem_of_getElem? (i := 27) (by decide +kernel), by decide +kernel⟩
theorem qs_28 : Cond.selects "MilkRound" yX2_requireGradedBatch yX2_requireGradedBatch ∈ lw_all := List.mem_filter.mpr ⟨List.mem_of_getElem? (i := 28) (by decide +kernel), by decide +kernel⟩
theorem qs_29 : Cond.selects "MilkRound$Samples" yX1_payOfAll yX1_payOfAll ∈ lw_all := List.mem_filter.mpr ⟨List.mem_of_getElem? (i := 29) (by decide +kernel), by decide +kernel⟩
theorem qs_30 : Cond.selects "MilkRound$Samples" yX1_paidTo yX1_paidTo ∈ lw_all := List.mem_filter.mpr ⟨List.mem_of_getElem? (i := 30) (by decide +kernel), by decide +kernel⟩
theorem qs_31 : Cond.selects "MilkRound$Samples" yX1_blamedOn yX1_blamedOn ∈ lw_all := List.mem_filter.mpr ⟨List.mem_of_getElem? (i := 31) (by decide +kernel), by decide +kernel⟩
theorem qs_32 : Cond.selects "MilkRound$Samples" yX1_balanceOf yX1_balanceOf ∈ lw_all := List.mem_filter.mpr ⟨List.mem_of_getElem? (i := 32) (by decide +kernel), by decide +kernel⟩
theorem qs_33 : Cond.selects "MilkRound$Samples" yX1_allLitres yX1_allLitres ∈ lw_all := List.mem_filter.mpr ⟨List.mem_of_getElem? (i := 33) (by decide +kernel), by decide +kernel⟩
theorem qs_34 : Cond.selects "MilkRoundModel" yX3_isFarm yX3_isFarm ∈ lw_all := List.mem_filter.mpr ⟨List.mem_of_getElem? (i := 34) (by decide +kernel), by decide +kernel⟩
theorem qs_35 : Cond.selects "MilkRoundModel" yX3_isVat yX3_isVat ∈ lw_all := List.mem_filter.mpr ⟨List.mem_of_getElem? (i := 35) (by decide +kernel), by decide +kernel⟩
theorem qs_36 : Cond.selects "MilkRoundModel" yX3_onWay yX3_onWay ∈ lw_all := List.mem_filter.mpr ⟨List.mem_of_getElem? (i := 36) (by decide +kernel), by decide +kernel⟩
theorem qs_37 : Cond.selects "MilkRoundModel" yX3_isSample yX3_isSample ∈ lw_all := List.mem_filter.mpr ⟨List.mem_of_getElem? (i := 37) (by decide +kernel), by decide +kernel⟩
theorem qs_38 : Cond.selects "MilkRoundModel" yX3_isBatch yX3_isBatch ∈ lw_all := List.mem_filter.mpr ⟨List.mem_of_getElem? (i := 38) (by decide +kernel), by decide +kernel⟩
theorem qs_39 : Cond.selects "MilkRoundModel" yX3_has yX3_has ∈ lw_all := List.mem_filter.mpr ⟨List.mem_of_getElem? (i := 39) (by decide +kernel), by decide +kernel⟩
theorem qs_40 : Cond.selects "MilkRoundModel" yX3_isGraded yX3_isGraded ∈ lw_all := List.mem_filter.mpr ⟨List.mem_of_getElem? (i := 40) (by decide +kernel), by decide +kernel⟩
theorem qs_41 : Cond.selects "MilkRoundModel" yX3_payOf yX3_payOf ∈ lw_all := List.mem_filter.mpr ⟨List.mem_of_getElem? (i := 41) (by decide +kernel), by decide +kernel⟩
theorem qs_42 : Cond.selects "MilkRoundModel" yX3_worthOf yX3_worthOf ∈ lw_all := List.mem_filter.mpr ⟨List.mem_of_getElem? (i := 42) (by decide +kernel), by decide +kernel⟩
theorem qs_43 : Cond.selects "MilkRoundModel" yX3_lossOf yX3_lossOf ∈ lw_all := List.mem_filter.mpr ⟨List.mem_of_getElem? (i := 43) (by decide +kernel), by decide +kernel⟩
theorem qs_44 : Cond.selects "MilkRoundModel" yX3_counts yX3_counts ∈ lw_all := List.mem_filter.mpr ⟨List.mem_of_getElem? (i := 44) (by decide +kernel), by decide +kernel⟩
theorem qs_45 : Cond.selects "MilkRoundModel" yX3_blameOf yX3_blameOf ∈ lw_all := List.mem_filter.mpr ⟨List.mem_of_getElem? (i := 45) (by decide +kernel), by decide +kernel⟩
theorem q_0 : (Cond.initialized "MilkRoundLaw") ∈ lw_all := List.mem_filter.mpr ⟨List.mem_of_getElem? (i := 46) (by decide +kernel), by decide +kernel⟩
theorem q_1 : (Cond.initialized "MilkRound") ∈ lw_all := List.mem_filter.mpr ⟨List.mem_of_getElem? (i := 47) (by decide +kernel), by decide +kernel⟩
theorem q_2 : (Cond.initialized "MilkRound$Farms") ∈ lw_all := List.mem_filter.mpr ⟨List.mem_of_getElem? (i := 48) (by decide +kernel), by decide +kernel⟩
theorem q_3 : (Cond.initialized "MilkRound$Samples") ∈ lw_all := List.mem_filter.mpr ⟨List.mem_of_getElem? (i := 49) (by decide +kernel), by decide +kernel⟩
theorem q_4 : (Cond.initialized "MilkRoundModel") ∈ lw_all := List.mem_filter.mpr ⟨List.mem_of_getElem? (i := 50) (by decide +kernel), by decide +kernel⟩
theorem q_5 : (Cond.initialized "java/lang/Throwable") ∈ lw_all := List.mem_filter.mpr ⟨List.mem_of_getElem? (i := 51) (by decide +kernel), by decide +kernel⟩
theorem q_6 : (Cond.initialized "java/lang/Exception") ∈ lw_all := List.mem_filter.mpr ⟨List.mem_of_getElem? (i := 52) (by decide +kernel), by decide +kernel⟩
theorem q_7 : (Cond.initialized "java/lang/RuntimeException") ∈ lw_all := List.mem_filter.mpr ⟨List.mem_of_getElem? (i := 53) (by decide +kernel), by decide +kernel⟩
theorem q_8 : (Cond.initialized "java/lang/IllegalArgumentException") ∈ lw_all := List.mem_filter.mpr ⟨List.mem_of_getElem? (i := 54) (by decide +kernel), by decide +kernel⟩
theorem q_9 : (Cond.initialized "java/lang/IllegalStateException") ∈ lw_all := List.mem_filter.mpr ⟨List.mem_of_getElem? (i := 55) (by decide +kernel), by decide +kernel⟩
theorem q_10 : (Cond.initialized "java/lang/IndexOutOfBoundsException") ∈ lw_all := List.mem_filter.mpr ⟨List.mem_of_getElem? (i := 56) (by decide +kernel), by decide +kernel⟩
theorem q_11 : (Cond.initialized "java/lang/ArrayIndexOutOfBoundsException") ∈ lw_all := List.mem_filter.mpr ⟨List.mem_of_getElem? (i := 57) (by decide +kernel), by decide +kernel⟩
theorem q_12 : (Cond.initialized "java/lang/String") ∈ lw_all := List.mem_filter.mpr ⟨List.mem_of_getElem? (i := 58) (by decide +kernel), by decide +kernel⟩
theorem q_13 : (Cond.initialized "java/lang/Math") ∈ lw_all := List.mem_filter.mpr ⟨List.mem_of_getElem? (i := 59) (by decide +kernel), by decide +kernel⟩
theorem q_14 : (Cond.initialized "java/lang/UnsupportedOperationException") ∈ lw_all := List.mem_filter.mpr ⟨List.mem_of_getElem? (i := 60) (by decide +kernel), by decide +kernel⟩
theorem q_15 : (Cond.initialized "java/util/NoSuchElementException") ∈ lw_all := List.mem_filter.mpr ⟨List.mem_of_getElem? (i := 61) (by decide +kernel), by decide +kernel⟩
theorem q_16 : (Cond.initialized "java/lang/ArithmeticException") ∈ lw_all := List.mem_filter.mpr ⟨List.mem_of_getElem? (i := 62) (by decide +kernel), by decide +kernel⟩
theorem q_17 : (Cond.classLink "MilkRoundLaw" (8 : Nat) "MilkRound") ∈ lw_all := List.mem_filter.mpr ⟨List.mem_of_getElem? (i := 63) (by decide +kernel), by decide +kernel⟩
theorem q_18 : (Cond.instantiable "MilkRound" (9 : Nat)) ∈ lw_all := List.mem_filter.mpr ⟨List.mem_of_getElem? (i := 64) (by decide +kernel), by decide +kernel⟩
theorem q_19 : (Cond.methodLink "MilkRoundLaw" (107 : Nat) yX2_init) ∈ lw_all := List.mem_filter.mpr ⟨List.mem_of_getElem? (i := 65) (by decide +kernel), by decide +kernel⟩
theorem q_20 : (Cond.instanceMethod yX2_init) ∈ lw_all := List.mem_filter.mpr ⟨List.mem_of_getElem? (i := 66) (by decide +kernel), by decide +kernel⟩
theorem q_21 : (Cond.code yX2_init prog_1_method_1_code (1 : Nat) (Option.none : Option Jvm.ClassFile.FieldType)) ∈ lw_all := List.mem_filter.mpr ⟨List.mem_of_getElem? (i := 67) (by decide +kernel), by decide +kernel⟩
theorem q_22 : (Cond.methodLink "MilkRound" (1 : Nat) ⟨"java/lang/Object", "<init>", "()V"⟩) ∈ lw_all := List.mem_filter.mpr ⟨List.mem_of_getElem? (i := 68) (by decide +kernel), by decide +kernel⟩
theorem q_23 : (Cond.instanceMethod ⟨"java/lang/Object", "<init>", "()V"⟩) ∈ lw_all := List.mem_filter.mpr ⟨List.mem_of_getElem? (i := 69) (by decide +kernel), by decide +kernel⟩
theorem q_24 : (Cond.code ⟨"java/lang/Object", "<init>", "()V"⟩ object_method_1_code (1 : Nat) (Option.none : Option Jvm.ClassFile.FieldType)) ∈ lw_all := List.mem_filter.mpr ⟨List.mem_of_getElem? (i := 70) (by decide +kernel), by decide +kernel⟩
theorem q_25 : (Cond.classLink "MilkRound" (13 : Nat) "MilkRound$Farms") ∈ lw_all := List.mem_filter.mpr ⟨List.mem_of_getElem? (i := 71) (by decide +kernel), by decide +kernel⟩
theorem q_26 : (Cond.instantiable "MilkRound$Farms" (5 : Nat)) ∈ lw_all := List.mem_filter.mpr ⟨List.mem_of_getElem? (i := 72) (by decide +kernel), by decide +kernel⟩
theorem q_28 : (Cond.instanceMethod yX0_init) ∈ lw_all := List.mem_filter.mpr ⟨List.mem_of_getElem? (i := 74) (by decide +kernel), by decide +kernel⟩
theorem q_29 : (Cond.code yX0_init prog_2_method_1_code (1 : Nat) (Option.none : Option Jvm.ClassFile.FieldType)) ∈ lw_all := List.mem_filter.mpr ⟨List.mem_of_getElem? (i := 75) (by decide +kernel), by decide +kernel⟩
theorem q_30 : (Cond.methodLink "MilkRound$Farms" (3 : Nat) ⟨"java/lang/Object", "<init>", "()V"⟩) ∈ lw_all := List.mem_filter.mpr ⟨List.mem_of_getElem? (i := 76) (by decide +kernel), by decide +kernel⟩
theorem q_31 : (Cond.classLink "MilkRound$Farms" (25 : Nat) "[[I") ∈ lw_all := List.mem_filter.mpr ⟨List.mem_of_getElem? (i := 77) (by decide +kernel), by decide +kernel⟩
theorem q_33 : (Cond.fieldLink "MilkRound$Farms" (9 : Nat) "MilkRound$Farms" "count" "I") ∈ lw_all := List.mem_filter.mpr ⟨List.mem_of_getElem? (i := 79) (by decide +kernel), by decide +kernel⟩
theorem q_35 : (Cond.fieldLink "MilkRound$Farms" (15 : Nat) "MilkRound$Farms" "rooms" "[I") ∈ lw_all := List.mem_filter.mpr ⟨List.mem_of_getElem? (i := 81) (by decide +kernel), by decide +kernel⟩
theorem q_36 : (Cond.fieldLink "MilkRound$Farms" (19 : Nat) "MilkRound$Farms" "tanks" "[I") ∈ lw_all := List.mem_filter.mpr ⟨List.mem_of_getElem? (i := 82) (by decide +kernel), by decide +kernel⟩
theorem q_38 : (Cond.fieldLink "MilkRound$Farms" (22 : Nat) "MilkRound$Farms" "cows" "[I") ∈ lw_all := List.mem_filter.mpr ⟨List.mem_of_getElem? (i := 84) (by decide +kernel), by decide +kernel⟩
theorem q_40 : (Cond.fieldLink "MilkRound$Farms" (27 : Nat) "MilkRound$Farms" "bests" "[[I") ∈ lw_all := List.mem_filter.mpr ⟨List.mem_of_getElem? (i := 86) (by decide +kernel), by decide +kernel⟩
theorem q_41 : (Cond.lays "MilkRound$Farms" "MilkRound$Farms" "count" "I") ∈ lw_all := List.mem_filter.mpr ⟨List.mem_of_getElem? (i := 87) (by decide +kernel), by decide +kernel⟩
theorem q_43 : (Cond.laysFinal "MilkRound$Farms" "MilkRound$Farms" "rooms" "[I") ∈ lw_all := List.mem_filter.mpr ⟨List.mem_of_getElem? (i := 89) (by decide +kernel), by decide +kernel⟩
theorem q_45 : (Cond.laysFinal "MilkRound$Farms" "MilkRound$Farms" "tanks" "[I") ∈ lw_all := List.mem_filter.mpr ⟨List.mem_of_getElem? (i := 91) (by decide +kernel), by decide +kernel⟩
theorem q_47 : (Cond.laysFinal "MilkRound$Farms" "MilkRound$Farms" "cows" "[I") ∈ lw_all := List.mem_filter.mpr ⟨List.mem_of_getElem? (i := 93) (by decide +kernel), by decide +kernel⟩
theorem q_49 : (Cond.laysFinal "MilkRound$Farms" "MilkRound$Farms" "bests" "[[I") ∈ lw_all := List.mem_filter.mpr ⟨List.mem_of_getElem? (i := 95) (by decide +kernel), by decide +kernel⟩
theorem q_52 : (Cond.arrayClass Jvm.ClassFile.FieldType.int) ∈ lw_all := List.mem_filter.mpr ⟨List.mem_of_getElem? (i := 98) (by decide +kernel), by decide +kernel⟩
theorem q_53 : (Cond.classLink "MilkRound" (38 : Nat) "MilkRound$Samples") ∈ lw_all := List.mem_filter.mpr ⟨List.mem_of_getElem? (i := 99) (by decide +kernel), by decide +kernel⟩
theorem q_54 : (Cond.instantiable "MilkRound$Samples" (8 : Nat)) ∈ lw_all := List.mem_filter.mpr ⟨List.mem_of_getElem? (i := 100) (by decide +kernel), by decide +kernel⟩
theorem q_56 : (Cond.instanceMethod yX1_init) ∈ lw_all := List.mem_filter.mpr ⟨List.mem_of_getElem? (i := 102) (by decide +kernel), by decide +kernel⟩
theorem q_57 : (Cond.code yX1_init prog_3_method_1_code (1 : Nat) (Option.none : Option Jvm.ClassFile.FieldType)) ∈ lw_all := List.mem_filter.mpr ⟨List.mem_of_getElem? (i := 103) (by decide +kernel), by decide +kernel⟩
theorem q_58 : (Cond.methodLink "MilkRound$Samples" (3 : Nat) ⟨"java/lang/Object", "<init>", "()V"⟩) ∈ lw_all := List.mem_filter.mpr ⟨List.mem_of_getElem? (i := 104) (by decide +kernel), by decide +kernel⟩
theorem q_59 : (Cond.fieldLink "MilkRound$Samples" (9 : Nat) "MilkRound$Samples" "count" "I") ∈ lw_all := List.mem_filter.mpr ⟨List.mem_of_getElem? (i := 105) (by decide +kernel), by decide +kernel⟩
theorem q_61 : (Cond.fieldLink "MilkRound$Samples" (15 : Nat) "MilkRound$Samples" "farm" "[I") ∈ lw_all := List.mem_filter.mpr ⟨List.mem_of_getElem? (i := 107) (by decide +kernel), by decide +kernel⟩
theorem q_63 : (Cond.fieldLink "MilkRound$Samples" (19 : Nat) "MilkRound$Samples" "amount" "[I") ∈ lw_all := List.mem_filter.mpr ⟨List.mem_of_getElem? (i := 109) (by decide +kernel), by decide +kernel⟩
theorem q_65 : (Cond.fieldLink "MilkRound$Samples" (22 : Nat) "MilkRound$Samples" "mark" "[C") ∈ lw_all := List.mem_filter.mpr ⟨List.mem_of_getElem? (i := 111) (by decide +kernel), by decide +kernel⟩
theorem q_67 : (Cond.fieldLink "MilkRound$Samples" (26 : Nat) "MilkRound$Samples" "place" "[C") ∈ lw_all := List.mem_filter.mpr ⟨List.mem_of_getElem? (i := 113) (by decide +kernel), by decide +kernel⟩
theorem q_69 : (Cond.fieldLink "MilkRound$Samples" (29 : Nat) "MilkRound$Samples" "number" "[I") ∈ lw_all := List.mem_filter.mpr ⟨List.mem_of_getElem? (i := 115) (by decide +kernel), by decide +kernel⟩
theorem q_71 : (Cond.fieldLink "MilkRound$Samples" (32 : Nat) "MilkRound$Samples" "paid" "[I") ∈ lw_all := List.mem_filter.mpr ⟨List.mem_of_getElem? (i := 117) (by decide +kernel), by decide +kernel⟩
theorem q_72 : (Cond.fieldLink "MilkRound$Samples" (35 : Nat) "MilkRound$Samples" "blamed" "[I") ∈ lw_all := List.mem_filter.mpr ⟨List.mem_of_getElem? (i := 118) (by decide +kernel), by decide +kernel⟩
theorem q_73 : (Cond.lays "MilkRound$Samples" "MilkRound$Samples" "count" "I") ∈ lw_all := List.mem_filter.mpr ⟨List.mem_of_getElem? (i := 119) (by decide +kernel), by decide +kernel⟩
theorem q_75 : (Cond.laysFinal "MilkRound$Samples" "MilkRound$Samples" "farm" "[I") ∈ lw_all := List.mem_filter.mpr ⟨List.mem_of_getElem? (i := 121) (by decide +kernel), by decide +kernel⟩
theorem q_77 : (Cond.laysFinal "MilkRound$Samples" "MilkRound$Samples" "amount" "[I") ∈ lw_all := List.mem_filter.mpr ⟨List.mem_of_getElem? (i := 123) (by decide +kernel), by decide +kernel⟩
theorem q_79 : (Cond.laysFinal "MilkRound$Samples" "MilkRound$Samples" "mark" "[C") ∈ lw_all := List.mem_filter.mpr ⟨List.mem_of_getElem? (i := 125) (by decide +kernel), by decide +kernel⟩
theorem q_81 : (Cond.laysFinal "MilkRound$Samples" "MilkRound$Samples" "place" "[C") ∈ lw_all := List.mem_filter.mpr ⟨List.mem_of_getElem? (i := 127) (by decide +kernel), by decide +kernel⟩
theorem q_83 : (Cond.laysFinal "MilkRound$Samples" "MilkRound$Samples" "number" "[I") ∈ lw_all := List.mem_filter.mpr ⟨List.mem_of_getElem? (i := 129) (by decide +kernel), by decide +kernel⟩
theorem q_85 : (Cond.laysFinal "MilkRound$Samples" "MilkRound$Samples" "paid" "[I") ∈ lw_all := List.mem_filter.mpr ⟨List.mem_of_getElem? (i := 131) (by decide +kernel), by decide +kernel⟩
theorem q_87 : (Cond.laysFinal "MilkRound$Samples" "MilkRound$Samples" "blamed" "[I") ∈ lw_all := List.mem_filter.mpr ⟨List.mem_of_getElem? (i := 133) (by decide +kernel), by decide +kernel⟩
theorem q_90 : (Cond.arrayClass Jvm.ClassFile.FieldType.boolean) ∈ lw_all := List.mem_filter.mpr ⟨List.mem_of_getElem? (i := 136) (by decide +kernel), by decide +kernel⟩
theorem q_91 : (Cond.arrayClass Jvm.ClassFile.FieldType.char) ∈ lw_all := List.mem_filter.mpr ⟨List.mem_of_getElem? (i := 137) (by decide +kernel), by decide +kernel⟩
theorem q_92 : (Cond.fieldLink "MilkRound" (7 : Nat) "MilkRound" "today" "I") ∈ lw_all := List.mem_filter.mpr ⟨List.mem_of_getElem? (i := 138) (by decide +kernel), by decide +kernel⟩
theorem q_93 : (Cond.fieldLink "MilkRound" (16 : Nat) "MilkRound" "farms" "LMilkRound$Farms;") ∈ lw_all := List.mem_filter.mpr ⟨List.mem_of_getElem? (i := 139) (by decide +kernel), by decide +kernel⟩
theorem q_94 : (Cond.fieldLink "MilkRound" (20 : Nat) "MilkRound" "vatCount" "I") ∈ lw_all := List.mem_filter.mpr ⟨List.mem_of_getElem? (i := 140) (by decide +kernel), by decide +kernel⟩
theorem q_95 : (Cond.fieldLink "MilkRound" (23 : Nat) "MilkRound" "vatRooms" "[I") ∈ lw_all := List.mem_filter.mpr ⟨List.mem_of_getElem? (i := 141) (by decide +kernel), by decide +kernel⟩
theorem q_96 : (Cond.fieldLink "MilkRound" (27 : Nat) "MilkRound" "rounds" "I") ∈ lw_all := List.mem_filter.mpr ⟨List.mem_of_getElem? (i := 142) (by decide +kernel), by decide +kernel⟩
theorem q_97 : (Cond.fieldLink "MilkRound" (30 : Nat) "MilkRound" "roundUnderWay" "Z") ∈ lw_all := List.mem_filter.mpr ⟨List.mem_of_getElem? (i := 143) (by decide +kernel), by decide +kernel⟩
theorem q_98 : (Cond.fieldLink "MilkRound" (34 : Nat) "MilkRound" "visited" "[Z") ∈ lw_all := List.mem_filter.mpr ⟨List.mem_of_getElem? (i := 144) (by decide +kernel), by decide +kernel⟩
theorem q_99 : (Cond.fieldLink "MilkRound" (41 : Nat) "MilkRound" "taken" "LMilkRound$Samples;") ∈ lw_all := List.mem_filter.mpr ⟨List.mem_of_getElem? (i := 145) (by decide +kernel), by decide +kernel⟩
theorem q_100 : (Cond.fieldLink "MilkRound" (45 : Nat) "MilkRound" "batchCount" "I") ∈ lw_all := List.mem_filter.mpr ⟨List.mem_of_getElem? (i := 146) (by decide +kernel), by decide +kernel⟩
theorem q_101 : (Cond.lays "MilkRound" "MilkRound" "today" "I") ∈ lw_all := List.mem_filter.mpr ⟨List.mem_of_getElem? (i := 147) (by decide +kernel), by decide +kernel⟩
theorem q_103 : (Cond.laysFinal "MilkRound" "MilkRound" "farms" "LMilkRound$Farms;") ∈ lw_all := List.mem_filter.mpr ⟨List.mem_of_getElem? (i := 149) (by decide +kernel), by decide +kernel⟩
theorem q_105 : (Cond.lays "MilkRound" "MilkRound" "vatCount" "I") ∈ lw_all := List.mem_filter.mpr ⟨List.mem_of_getElem? (i := 151) (by decide +kernel), by decide +kernel⟩
theorem q_107 : (Cond.laysFinal "MilkRound" "MilkRound" "vatRooms" "[I") ∈ lw_all := List.mem_filter.mpr ⟨List.mem_of_getElem? (i := 153) (by decide +kernel), by decide +kernel⟩
theorem q_109 : (Cond.lays "MilkRound" "MilkRound" "rounds" "I") ∈ lw_all := List.mem_filter.mpr ⟨List.mem_of_getElem? (i := 155) (by decide +kernel), by decide +kernel⟩
theorem q_111 : (Cond.lays "MilkRound" "MilkRound" "roundUnderWay" "Z") ∈ lw_all := List.mem_filter.mpr ⟨List.mem_of_getElem? (i := 157) (by decide +kernel), by decide +kernel⟩
theorem q_113 : (Cond.laysFinal "MilkRound" "MilkRound" "visited" "[Z") ∈ lw_all := List.mem_filter.mpr ⟨List.mem_of_getElem? (i := 159) (by decide +kernel), by decide +kernel⟩
theorem q_115 : (Cond.laysFinal "MilkRound" "MilkRound" "taken" "LMilkRound$Samples;") ∈ lw_all := List.mem_filter.mpr ⟨List.mem_of_getElem? (i := 161) (by decide +kernel), by decide +kernel⟩
theorem q_117 : (Cond.lays "MilkRound" "MilkRound" "batchCount" "I") ∈ lw_all := List.mem_filter.mpr ⟨List.mem_of_getElem? (i := 163) (by decide +kernel), by decide +kernel⟩
theorem q_120 : (Cond.methodLink "MilkRoundLaw" (133 : Nat) yX2_day) ∈ lw_all := List.mem_filter.mpr ⟨List.mem_of_getElem? (i := 166) (by decide +kernel), by decide +kernel⟩
theorem q_121 : (Cond.instanceMethod yX2_day) ∈ lw_all := List.mem_filter.mpr ⟨List.mem_of_getElem? (i := 167) (by decide +kernel), by decide +kernel⟩
theorem q_122 : (Cond.selects "MilkRound" yX2_day yX2_day) ∈ lw_all := List.mem_filter.mpr ⟨List.mem_of_getElem? (i := 168) (by decide +kernel), by decide +kernel⟩
theorem q_123 : (Cond.code yX2_day prog_1_method_7_code (1 : Nat) (Option.some Jvm.ClassFile.FieldType.int)) ∈ lw_all := List.mem_filter.mpr ⟨List.mem_of_getElem? (i := 169) (by decide +kernel), by decide +kernel⟩
theorem q_124 : (Cond.methodLink "MilkRoundLaw" (150 : Nat) yX2_inTanker) ∈ lw_all := List.mem_filter.mpr ⟨List.mem_of_getElem? (i := 170) (by decide +kernel), by decide +kernel⟩
theorem q_125 : (Cond.instanceMethod yX2_inTanker) ∈ lw_all := List.mem_filter.mpr ⟨List.mem_of_getElem? (i := 171) (by decide +kernel), by decide +kernel⟩
theorem q_126 : (Cond.selects "MilkRound" yX2_inTanker yX2_inTanker) ∈ lw_all := List.mem_filter.mpr ⟨List.mem_of_getElem? (i := 172) (by decide +kernel), by decide +kernel⟩
theorem q_127 : (Cond.code yX2_inTanker prog_1_method_12_code (1 : Nat) (Option.some Jvm.ClassFile.FieldType.int)) ∈ lw_all := List.mem_filter.mpr ⟨List.mem_of_getElem? (i := 173) (by decide +kernel), by decide +kernel⟩
theorem q_130 : (Cond.instanceMethod yX1_litresIn) ∈ lw_all := List.mem_filter.mpr ⟨List.mem_of_getElem? (i := 176) (by decide +kernel), by decide +kernel⟩
theorem q_131 : (Cond.code yX1_litresIn prog_3_method_6_code (5 : Nat) (Option.some Jvm.ClassFile.FieldType.int)) ∈ lw_all := List.mem_filter.mpr ⟨List.mem_of_getElem? (i := 177) (by decide +kernel), by decide +kernel⟩
theorem q_132 : (Cond.methodLink "MilkRound$Samples" (38 : Nat) yX1_isIn) ∈ lw_all := List.mem_filter.mpr ⟨List.mem_of_getElem? (i := 178) (by decide +kernel), by decide +kernel⟩
theorem q_134 : (Cond.instanceMethod yX1_isIn) ∈ lw_all := List.mem_filter.mpr ⟨List.mem_of_getElem? (i := 180) (by decide +kernel), by decide +kernel⟩
theorem q_135 : (Cond.code yX1_isIn prog_3_method_3_code (4 : Nat) (Option.some Jvm.ClassFile.FieldType.boolean)) ∈ lw_all := List.mem_filter.mpr ⟨List.mem_of_getElem? (i := 181) (by decide +kernel), by decide +kernel⟩
theorem q_136 : (Cond.methodLink "MilkRoundLaw" (163 : Nat) yX2_samples) ∈ lw_all := List.mem_filter.mpr ⟨List.mem_of_getElem? (i := 182) (by decide +kernel), by decide +kernel⟩
theorem q_137 : (Cond.instanceMethod yX2_samples) ∈ lw_all := List.mem_filter.mpr ⟨List.mem_of_getElem? (i := 183) (by decide +kernel), by decide +kernel⟩
theorem q_138 : (Cond.selects "MilkRound" yX2_samples yX2_samples) ∈ lw_all := List.mem_filter.mpr ⟨List.mem_of_getElem? (i := 184) (by decide +kernel), by decide +kernel⟩
theorem q_139 : (Cond.code yX2_samples prog_1_method_16_code (1 : Nat) (Option.some Jvm.ClassFile.FieldType.int)) ∈ lw_all := List.mem_filter.mpr ⟨List.mem_of_getElem? (i := 185) (by decide +kernel), by decide +kernel⟩
theorem q_140 : (Cond.methodLink "MilkRoundLaw" (180 : Nat) yX2_batches) ∈ lw_all := List.mem_filter.mpr ⟨List.mem_of_getElem? (i := 186) (by decide +kernel), by decide +kernel⟩
theorem q_141 : (Cond.instanceMethod yX2_batches) ∈ lw_all := List.mem_filter.mpr ⟨List.mem_of_getElem? (i := 187) (by decide +kernel), by decide +kernel⟩
theorem q_142 : (Cond.selects "MilkRound" yX2_batches yX2_batches) ∈ lw_all := List.mem_filter.mpr ⟨List.mem_of_getElem? (i := 188) (by decide +kernel), by decide +kernel⟩
theorem q_143 : (Cond.code yX2_batches prog_1_method_21_code (1 : Nat) (Option.some Jvm.ClassFile.FieldType.int)) ∈ lw_all := List.mem_filter.mpr ⟨List.mem_of_getElem? (i := 189) (by decide +kernel), by decide +kernel⟩
theorem q_144 : (Cond.methodLink "MilkRoundLaw" (111 : Nat) yL_addFarm) ∈ lw_all := List.mem_filter.mpr ⟨List.mem_of_getElem? (i := 190) (by decide +kernel), by decide +kernel⟩
theorem q_145 : (Cond.static yL_addFarm) ∈ lw_all := List.mem_filter.mpr ⟨List.mem_of_getElem? (i := 191) (by decide +kernel), by decide +kernel⟩
theorem q_146 : (Cond.codeWith yL_addFarm method_3_code (4 : Nat) (Option.some Jvm.ClassFile.FieldType.int) [((0 : Nat), (9 : Nat), (12 : Nat), (13 : Nat)), ((0 : Nat), (9 : Nat), (15 : Nat), (15 : Nat))]) ∈ lw_all := List.mem_filter.mpr ⟨List.mem_of_getElem? (i := 192) (by decide +kernel), by decide +kernel⟩
theorem q_147 : (Cond.classLink "MilkRoundLaw" (13 : Nat) "java/lang/IllegalArgumentException") ∈ lw_all := List.mem_filter.mpr ⟨List.mem_of_getElem? (i := 193) (by decide +kernel), by decide +kernel⟩
theorem q_148 : (Cond.classLink "MilkRoundLaw" (15 : Nat) "java/lang/IllegalStateException") ∈ lw_all := List.mem_filter.mpr ⟨List.mem_of_getElem? (i := 194) (by decide +kernel), by decide +kernel⟩
theorem q_149 : (Cond.methodLink "MilkRoundLaw" (7 : Nat) yX2_addFarm) ∈ lw_all := List.mem_filter.mpr ⟨List.mem_of_getElem? (i := 195) (by decide +kernel), by decide +kernel⟩
theorem q_150 : (Cond.instanceMethod yX2_addFarm) ∈ lw_all := List.mem_filter.mpr ⟨List.mem_of_getElem? (i := 196) (by decide +kernel), by decide +kernel⟩
theorem q_151 : (Cond.selects "MilkRound" yX2_addFarm yX2_addFarm) ∈ lw_all := List.mem_filter.mpr ⟨List.mem_of_getElem? (i := 197) (by decide +kernel), by decide +kernel⟩
theorem q_152 : (Cond.code yX2_addFarm prog_1_method_2_code (2 : Nat) (Option.some Jvm.ClassFile.FieldType.int)) ∈ lw_all := List.mem_filter.mpr ⟨List.mem_of_getElem? (i := 198) (by decide +kernel), by decide +kernel⟩
theorem q_153 : (Cond.classLink "MilkRound" (48 : Nat) "java/lang/IllegalArgumentException") ∈ lw_all := List.mem_filter.mpr ⟨List.mem_of_getElem? (i := 199) (by decide +kernel), by decide +kernel⟩
theorem q_154 : (Cond.instantiable "java/lang/IllegalArgumentException" (6 : Nat)) ∈ lw_all := List.mem_filter.mpr ⟨List.mem_of_getElem? (i := 200) (by decide +kernel), by decide +kernel⟩
theorem q_162 : (Cond.selects "java/lang/IllegalArgumentException" ⟨"java/lang/Throwable", "fillInStackTrace", "(I)Ljava/lang/Throwable;"⟩ ⟨"java/lang/Throwable", "fillInStackTrace", "(I)Ljava/lang/Throwable;"⟩) ∈ lw_all := List.mem_filter.mpr ⟨List.mem_of_getElem? (i := 208) (by decide +kernel), by decide +kernel⟩
theorem q_163 : (Cond.selects "java/lang/IllegalArgumentException" ⟨"java/lang/Throwable", "fillInStackTrace", "()Ljava/lang/Throwable;"⟩ ⟨"java/lang/Throwable", "fillInStackTrace", "()Ljava/lang/Throwable;"⟩) ∈ lw_all := List.mem_filter.mpr ⟨List.mem_of_getElem? (i := 209) (by decide +kernel), by decide +kernel⟩
theorem q_164 : (Cond.lays "java/lang/IllegalArgumentException" "java/lang/Throwable" "cause" "Ljava/lang/Throwable;") ∈ lw_all := List.mem_filter.mpr ⟨List.mem_of_getElem? (i := 210) (by decide +kernel), by decide +kernel⟩
theorem q_165 : (Cond.lays "java/lang/Throwable" "java/lang/Throwable" "cause" "Ljava/lang/Throwable;") ∈ lw_all := List.mem_filter.mpr ⟨List.mem_of_getElem? (i := 211) (by decide +kernel), by decide +kernel⟩
theorem q_166 : (Cond.lays "java/lang/IllegalArgumentException" "java/lang/Throwable" "stackTrace" "[Ljava/lang/StackTraceElement;") ∈ lw_all := List.mem_filter.mpr ⟨List.mem_of_getElem? (i := 212) (by decide +kernel), by decide +kernel⟩
theorem q_167 : (Cond.lays "java/lang/Throwable" "java/lang/Throwable" "stackTrace" "[Ljava/lang/StackTraceElement;") ∈ lw_all := List.mem_filter.mpr ⟨List.mem_of_getElem? (i := 213) (by decide +kernel), by decide +kernel⟩
theorem q_168 : (Cond.lays "java/lang/IllegalArgumentException" "java/lang/Throwable" "suppressedExceptions" "Ljava/util/List;") ∈ lw_all := List.mem_filter.mpr ⟨List.mem_of_getElem? (i := 214) (by decide +kernel), by decide +kernel⟩
theorem q_169 : (Cond.lays "java/lang/Throwable" "java/lang/Throwable" "suppressedExceptions" "Ljava/util/List;") ∈ lw_all := List.mem_filter.mpr ⟨List.mem_of_getElem? (i := 215) (by decide +kernel), by decide +kernel⟩
theorem q_170 : (Cond.lays "java/lang/IllegalArgumentException" "java/lang/Throwable" "detailMessage" "Ljava/lang/String;") ∈ lw_all := List.mem_filter.mpr ⟨List.mem_of_getElem? (i := 216) (by decide +kernel), by decide +kernel⟩
theorem q_171 : (Cond.lays "java/lang/Throwable" "java/lang/Throwable" "detailMessage" "Ljava/lang/String;") ∈ lw_all := List.mem_filter.mpr ⟨List.mem_of_getElem? (i := 217) (by decide +kernel), by decide +kernel⟩
theorem q_172 : (Cond.lays "java/lang/IllegalArgumentException" "java/lang/Throwable" "backtrace" "Ljava/lang/Object;") ∈ lw_all := List.mem_filter.mpr ⟨List.mem_of_getElem? (i := 218) (by decide +kernel), by decide +kernel⟩
theorem q_173 : (Cond.lays "java/lang/Throwable" "java/lang/Throwable" "backtrace" "Ljava/lang/Object;") ∈ lw_all := List.mem_filter.mpr ⟨List.mem_of_getElem? (i := 219) (by decide +kernel), by decide +kernel⟩
theorem q_174 : (Cond.fieldLink "java/lang/Throwable" (198 : Nat) "java/lang/Throwable" "backtrace" "Ljava/lang/Object;") ∈ lw_all := List.mem_filter.mpr ⟨List.mem_of_getElem? (i := 220) (by decide +kernel), by decide +kernel⟩
theorem q_176 : (Cond.instanceMethod ⟨"java/lang/Throwable", "<init>", "()V"⟩) ∈ lw_all := List.mem_filter.mpr ⟨List.mem_of_getElem? (i := 222) (by decide +kernel), by decide +kernel⟩
theorem q_177 : (Cond.code ⟨"java/lang/Throwable", "<init>", "()V"⟩ prog_16_method_1_code (1 : Nat) (Option.none : Option Jvm.ClassFile.FieldType)) ∈ lw_all := List.mem_filter.mpr ⟨List.mem_of_getElem? (i := 223) (by decide +kernel), by decide +kernel⟩
theorem q_178 : (Cond.methodLink "java/lang/Throwable" (1 : Nat) ⟨"java/lang/Object", "<init>", "()V"⟩) ∈ lw_all := List.mem_filter.mpr ⟨List.mem_of_getElem? (i := 224) (by decide +kernel), by decide +kernel⟩
theorem q_179 : (Cond.fieldLink "java/lang/Throwable" (13 : Nat) "java/lang/Throwable" "UNASSIGNED_STACK" "[Ljava/lang/StackTraceElement;") ∈ lw_all := List.mem_filter.mpr ⟨List.mem_of_getElem? (i := 225) (by decide +kernel), by decide +kernel⟩
theorem q_181 : (Cond.fieldLink "java/lang/Throwable" (20 : Nat) "java/lang/Throwable" "SUPPRESSED_SENTINEL" "Ljava/util/List;") ∈ lw_all := List.mem_filter.mpr ⟨List.mem_of_getElem? (i := 227) (by decide +kernel), by decide +kernel⟩
theorem q_183 : (Cond.methodLink "java/lang/Throwable" (27 : Nat) ⟨"java/lang/Throwable", "fillInStackTrace", "()Ljava/lang/Throwable;"⟩) ∈ lw_all := List.mem_filter.mpr ⟨List.mem_of_getElem? (i := 229) (by decide +kernel), by decide +kernel⟩
theorem q_184 : (Cond.instanceMethod ⟨"java/lang/Throwable", "fillInStackTrace", "()Ljava/lang/Throwable;"⟩) ∈ lw_all := List.mem_filter.mpr ⟨List.mem_of_getElem? (i := 230) (by decide +kernel), by decide +kernel⟩
theorem q_186 : (Cond.selects "java/lang/ArithmeticException" ⟨"java/lang/Throwable", "fillInStackTrace", "()Ljava/lang/Throwable;"⟩ ⟨"java/lang/Throwable", "fillInStackTrace", "()Ljava/lang/Throwable;"⟩) ∈ lw_all := List.mem_filter.mpr ⟨List.mem_of_getElem? (i := 232) (by decide +kernel), by decide +kernel⟩
theorem q_187 : (Cond.selects "java/lang/ArrayIndexOutOfBoundsException" ⟨"java/lang/Throwable", "fillInStackTrace", "()Ljava/lang/Throwable;"⟩ ⟨"java/lang/Throwable", "fillInStackTrace", "()Ljava/lang/Throwable;"⟩) ∈ lw_all := List.mem_filter.mpr ⟨List.mem_of_getElem? (i := 233) (by decide +kernel), by decide +kernel⟩
theorem q_188 : (Cond.selects "java/lang/IllegalStateException" ⟨"java/lang/Throwable", "fillInStackTrace", "()Ljava/lang/Throwable;"⟩ ⟨"java/lang/Throwable", "fillInStackTrace", "()Ljava/lang/Throwable;"⟩) ∈ lw_all := List.mem_filter.mpr ⟨List.mem_of_getElem? (i := 234) (by decide +kernel), by decide +kernel⟩
theorem q_189 : (Cond.selects "java/lang/IndexOutOfBoundsException" ⟨"java/lang/Throwable", "fillInStackTrace", "()Ljava/lang/Throwable;"⟩ ⟨"java/lang/Throwable", "fillInStackTrace", "()Ljava/lang/Throwable;"⟩) ∈ lw_all := List.mem_filter.mpr ⟨List.mem_of_getElem? (i := 235) (by decide +kernel), by decide +kernel⟩
theorem q_190 : (Cond.selects "java/lang/UnsupportedOperationException" ⟨"java/lang/Throwable", "fillInStackTrace", "()Ljava/lang/Throwable;"⟩ ⟨"java/lang/Throwable", "fillInStackTrace", "()Ljava/lang/Throwable;"⟩) ∈ lw_all := List.mem_filter.mpr ⟨List.mem_of_getElem? (i := 236) (by decide +kernel), by decide +kernel⟩
theorem q_191 : (Cond.selects "java/util/NoSuchElementException" ⟨"java/lang/Throwable", "fillInStackTrace", "()Ljava/lang/Throwable;"⟩ ⟨"java/lang/Throwable", "fillInStackTrace", "()Ljava/lang/Throwable;"⟩) ∈ lw_all := List.mem_filter.mpr ⟨List.mem_of_getElem? (i := 237) (by decide +kernel), by decide +kernel⟩
theorem q_193 : (Cond.methodLink "java/lang/Throwable" (202 : Nat) ⟨"java/lang/Throwable", "fillInStackTrace", "(I)Ljava/lang/Throwable;"⟩) ∈ lw_all := List.mem_filter.mpr ⟨List.mem_of_getElem? (i := 239) (by decide +kernel), by decide +kernel⟩
theorem q_195 : (Cond.instanceMethod ⟨"java/lang/Throwable", "fillInStackTrace", "(I)Ljava/lang/Throwable;"⟩) ∈ lw_all := List.mem_filter.mpr ⟨List.mem_of_getElem? (i := 241) (by decide +kernel), by decide +kernel⟩
theorem q_196 : (Cond.instantiable "java/lang/Throwable" (6 : Nat)) ∈ lw_all := List.mem_filter.mpr ⟨List.mem_of_getElem? (i := 242) (by decide +kernel), by decide +kernel⟩
theorem q_199 : (Cond.methodLink "MilkRound" (52 : Nat) ⟨"java/lang/IllegalArgumentException", "<init>", "(Ljava/lang/String;)V"⟩) ∈ lw_all := List.mem_filter.mpr ⟨List.mem_of_getElem? (i := 245) (by decide +kernel), by decide +kernel⟩
theorem q_200 : (Cond.instanceMethod ⟨"java/lang/IllegalArgumentException", "<init>", "(Ljava/lang/String;)V"⟩) ∈ lw_all := List.mem_filter.mpr ⟨List.mem_of_getElem? (i := 246) (by decide +kernel), by decide +kernel⟩
theorem q_201 : (Cond.code ⟨"java/lang/IllegalArgumentException", "<init>", "(Ljava/lang/String;)V"⟩ prog_10_method_2_code (2 : Nat) (Option.none : Option Jvm.ClassFile.FieldType)) ∈ lw_all := List.mem_filter.mpr ⟨List.mem_of_getElem? (i := 247) (by decide +kernel), by decide +kernel⟩
theorem q_202 : (Cond.methodLink "java/lang/IllegalArgumentException" (7 : Nat) ⟨"java/lang/RuntimeException", "<init>", "(Ljava/lang/String;)V"⟩) ∈ lw_all := List.mem_filter.mpr ⟨List.mem_of_getElem? (i := 248) (by decide +kernel), by decide +kernel⟩
theorem q_203 : (Cond.instanceMethod ⟨"java/lang/RuntimeException", "<init>", "(Ljava/lang/String;)V"⟩) ∈ lw_all := List.mem_filter.mpr ⟨List.mem_of_getElem? (i := 249) (by decide +kernel), by decide +kernel⟩
theorem q_204 : (Cond.code ⟨"java/lang/RuntimeException", "<init>", "(Ljava/lang/String;)V"⟩ prog_14_method_2_code (2 : Nat) (Option.none : Option Jvm.ClassFile.FieldType)) ∈ lw_all := List.mem_filter.mpr ⟨List.mem_of_getElem? (i := 250) (by decide +kernel), by decide +kernel⟩
theorem q_205 : (Cond.methodLink "java/lang/RuntimeException" (7 : Nat) ⟨"java/lang/Exception", "<init>", "(Ljava/lang/String;)V"⟩) ∈ lw_all := List.mem_filter.mpr ⟨List.mem_of_getElem? (i := 251) (by decide +kernel), by decide +kernel⟩
theorem q_206 : (Cond.instanceMethod ⟨"java/lang/Exception", "<init>", "(Ljava/lang/String;)V"⟩) ∈ lw_all := List.mem_filter.mpr ⟨List.mem_of_getElem? (i := 252) (by decide +kernel), by decide +kernel⟩
theorem q_207 : (Cond.code ⟨"java/lang/Exception", "<init>", "(Ljava/lang/String;)V"⟩ prog_9_method_2_code (2 : Nat) (Option.none : Option Jvm.ClassFile.FieldType)) ∈ lw_all := List.mem_filter.mpr ⟨List.mem_of_getElem? (i := 253) (by decide +kernel), by decide +kernel⟩
theorem q_208 : (Cond.methodLink "java/lang/Exception" (7 : Nat) ⟨"java/lang/Throwable", "<init>", "(Ljava/lang/String;)V"⟩) ∈ lw_all := List.mem_filter.mpr ⟨List.mem_of_getElem? (i := 254) (by decide +kernel), by decide +kernel⟩
theorem q_209 : (Cond.instanceMethod ⟨"java/lang/Throwable", "<init>", "(Ljava/lang/String;)V"⟩) ∈ lw_all := List.mem_filter.mpr ⟨List.mem_of_getElem? (i := 255) (by decide +kernel), by decide +kernel⟩
theorem q_210 : (Cond.code ⟨"java/lang/Throwable", "<init>", "(Ljava/lang/String;)V"⟩ prog_16_method_2_code (2 : Nat) (Option.none : Option Jvm.ClassFile.FieldType)) ∈ lw_all := List.mem_filter.mpr ⟨List.mem_of_getElem? (i := 256) (by decide +kernel), by decide +kernel⟩
theorem q_211 : (Cond.fieldLink "java/lang/Throwable" (198 : Nat) "java/lang/Throwable" "backtrace" "Ljava/lang/Object;") ∈ lw_all := List.mem_filter.mpr ⟨List.mem_of_getElem? (i := 257) (by decide +kernel), by decide +kernel⟩
theorem q_212 : (Cond.fieldLink "java/lang/Throwable" (31 : Nat) "java/lang/Throwable" "detailMessage" "Ljava/lang/String;") ∈ lw_all := List.mem_filter.mpr ⟨List.mem_of_getElem? (i := 258) (by decide +kernel), by decide +kernel⟩
theorem q_213 : (Cond.fieldLink "java/lang/Throwable" (7 : Nat) "java/lang/Throwable" "cause" "Ljava/lang/Throwable;") ∈ lw_all := List.mem_filter.mpr ⟨List.mem_of_getElem? (i := 259) (by decide +kernel), by decide +kernel⟩
theorem q_214 : (Cond.fieldLink "java/lang/Throwable" (17 : Nat) "java/lang/Throwable" "stackTrace" "[Ljava/lang/StackTraceElement;") ∈ lw_all := List.mem_filter.mpr ⟨List.mem_of_getElem? (i := 260) (by decide +kernel), by decide +kernel⟩
theorem q_215 : (Cond.fieldLink "java/lang/Throwable" (24 : Nat) "java/lang/Throwable" "suppressedExceptions" "Ljava/util/List;") ∈ lw_all := List.mem_filter.mpr ⟨List.mem_of_getElem? (i := 261) (by decide +kernel), by decide +kernel⟩
theorem q_220 : (Cond.lays "java/lang/IllegalArgumentException" "java/lang/Throwable" "depth" "I") ∈ lw_all := List.mem_filter.mpr ⟨List.mem_of_getElem? (i := 266) (by decide +kernel), by decide +kernel⟩
theorem q_224 : (Cond.arrayClass Jvm.ClassFile.FieldType.byte) ∈ lw_all := List.mem_filter.mpr ⟨List.mem_of_getElem? (i := 270) (by decide +kernel), by decide +kernel⟩
theorem q_225 : (Cond.classLink "MilkRound" (58 : Nat) "java/lang/IllegalStateException") ∈ lw_all := List.mem_filter.mpr ⟨List.mem_of_getElem? (i := 271) (by decide +kernel), by decide +kernel⟩
theorem q_226 : (Cond.instantiable "java/lang/IllegalStateException" (6 : Nat)) ∈ lw_all := List.mem_filter.mpr ⟨List.mem_of_getElem? (i := 272) (by decide +kernel), by decide +kernel⟩
theorem q_228 : (Cond.selects "java/lang/IllegalStateException" ⟨"java/lang/Throwable", "fillInStackTrace", "(I)Ljava/lang/Throwable;"⟩ ⟨"java/lang/Throwable", "fillInStackTrace", "(I)Ljava/lang/Throwable;"⟩) ∈ lw_all := List.mem_filter.mpr ⟨List.mem_of_getElem? (i := 274) (by decide +kernel), by decide +kernel⟩
theorem q_229 : (Cond.lays "java/lang/IllegalStateException" "java/lang/Throwable" "cause" "Ljava/lang/Throwable;") ∈ lw_all := List.mem_filter.mpr ⟨List.mem_of_getElem? (i := 275) (by decide +kernel), by decide +kernel⟩
theorem q_230 : (Cond.lays "java/lang/IllegalStateException" "java/lang/Throwable" "stackTrace" "[Ljava/lang/StackTraceElement;") ∈ lw_all := List.mem_filter.mpr ⟨List.mem_of_getElem? (i := 276) (by decide +kernel), by decide +kernel⟩
theorem q_231 : (Cond.lays "java/lang/IllegalStateException" "java/lang/Throwable" "suppressedExceptions" "Ljava/util/List;") ∈ lw_all := List.mem_filter.mpr ⟨List.mem_of_getElem? (i := 277) (by decide +kernel), by decide +kernel⟩
theorem q_232 : (Cond.lays "java/lang/IllegalStateException" "java/lang/Throwable" "detailMessage" "Ljava/lang/String;") ∈ lw_all := List.mem_filter.mpr ⟨List.mem_of_getElem? (i := 278) (by decide +kernel), by decide +kernel⟩
theorem q_233 : (Cond.lays "java/lang/IllegalStateException" "java/lang/Throwable" "backtrace" "Ljava/lang/Object;") ∈ lw_all := List.mem_filter.mpr ⟨List.mem_of_getElem? (i := 279) (by decide +kernel), by decide +kernel⟩
theorem q_235 : (Cond.methodLink "MilkRound" (62 : Nat) ⟨"java/lang/IllegalStateException", "<init>", "(Ljava/lang/String;)V"⟩) ∈ lw_all := List.mem_filter.mpr ⟨List.mem_of_getElem? (i := 281) (by decide +kernel), by decide +kernel⟩
theorem q_236 : (Cond.instanceMethod ⟨"java/lang/IllegalStateException", "<init>", "(Ljava/lang/String;)V"⟩) ∈ lw_all := List.mem_filter.mpr ⟨List.mem_of_getElem? (i := 282) (by decide +kernel), by decide +kernel⟩
theorem q_237 : (Cond.code ⟨"java/lang/IllegalStateException", "<init>", "(Ljava/lang/String;)V"⟩ prog_11_method_2_code (2 : Nat) (Option.none : Option Jvm.ClassFile.FieldType)) ∈ lw_all := List.mem_filter.mpr ⟨List.mem_of_getElem? (i := 283) (by decide +kernel), by decide +kernel⟩
theorem q_238 : (Cond.methodLink "java/lang/IllegalStateException" (7 : Nat) ⟨"java/lang/RuntimeException", "<init>", "(Ljava/lang/String;)V"⟩) ∈ lw_all := List.mem_filter.mpr ⟨List.mem_of_getElem? (i := 284) (by decide +kernel), by decide +kernel⟩
theorem q_239 : (Cond.lays "java/lang/IllegalStateException" "java/lang/Throwable" "depth" "I") ∈ lw_all := List.mem_filter.mpr ⟨List.mem_of_getElem? (i := 285) (by decide +kernel), by decide +kernel⟩
theorem q_243 : (Cond.instanceMethod yX0_add) ∈ lw_all := List.mem_filter.mpr ⟨List.mem_of_getElem? (i := 289) (by decide +kernel), by decide +kernel⟩
theorem q_244 : (Cond.code yX0_add prog_2_method_2_code (2 : Nat) (Option.some Jvm.ClassFile.FieldType.int)) ∈ lw_all := List.mem_filter.mpr ⟨List.mem_of_getElem? (i := 290) (by decide +kernel), by decide +kernel⟩
theorem q_245 : (Cond.methodLink "MilkRoundLaw" (120 : Nat) yL_addCow) ∈ lw_all := List.mem_filter.mpr ⟨List.mem_of_getElem? (i := 291) (by decide +kernel), by decide +kernel⟩
theorem q_246 : (Cond.static yL_addCow) ∈ lw_all := List.mem_filter.mpr ⟨List.mem_of_getElem? (i := 292) (by decide +kernel), by decide +kernel⟩
theorem q_247 : (Cond.codeWith yL_addCow method_4_code (5 : Nat) (Option.some Jvm.ClassFile.FieldType.int) [((0 : Nat), (10 : Nat), (13 : Nat), (21 : Nat)), ((0 : Nat), (10 : Nat), (17 : Nat), (13 : Nat)), ((0 : Nat), (10 : Nat), (21 : Nat), (15 : Nat))]) ∈ lw_all := List.mem_filter.mpr ⟨List.mem_of_getElem? (i := 293) (by decide +kernel), by decide +kernel⟩
theorem q_248 : (Cond.classLink "MilkRoundLaw" (21 : Nat) "java/lang/IndexOutOfBoundsException") ∈ lw_all := List.mem_filter.mpr ⟨List.mem_of_getElem? (i := 294) (by decide +kernel), by decide +kernel⟩
theorem q_249 : (Cond.instantiable "java/lang/ArrayIndexOutOfBoundsException" (6 : Nat)) ∈ lw_all := List.mem_filter.mpr ⟨List.mem_of_getElem? (i := 295) (by decide +kernel), by decide +kernel⟩
theorem q_250 : (Cond.instanceMethod ⟨"java/lang/ArrayIndexOutOfBoundsException", "<init>", "(Ljava/lang/String;)V"⟩) ∈ lw_all := List.mem_filter.mpr ⟨List.mem_of_getElem? (i := 296) (by decide +kernel), by decide +kernel⟩
theorem q_251 : (Cond.code ⟨"java/lang/ArrayIndexOutOfBoundsException", "<init>", "(Ljava/lang/String;)V"⟩ prog_8_method_2_code (2 : Nat) (Option.none : Option Jvm.ClassFile.FieldType)) ∈ lw_all := List.mem_filter.mpr ⟨List.mem_of_getElem? (i := 297) (by decide +kernel), by decide +kernel⟩
theorem q_252 : (Cond.methodLink "java/lang/ArrayIndexOutOfBoundsException" (7 : Nat) ⟨"java/lang/IndexOutOfBoundsException", "<init>", "(Ljava/lang/String;)V"⟩) ∈ lw_all := List.mem_filter.mpr ⟨List.mem_of_getElem? (i := 298) (by decide +kernel), by decide +kernel⟩
theorem q_253 : (Cond.instanceMethod ⟨"java/lang/IndexOutOfBoundsException", "<init>", "(Ljava/lang/String;)V"⟩) ∈ lw_all := List.mem_filter.mpr ⟨List.mem_of_getElem? (i := 299) (by decide +kernel), by decide +kernel⟩
theorem q_254 : (Cond.code ⟨"java/lang/IndexOutOfBoundsException", "<init>", "(Ljava/lang/String;)V"⟩ prog_12_method_2_code (2 : Nat) (Option.none : Option Jvm.ClassFile.FieldType)) ∈ lw_all := List.mem_filter.mpr ⟨List.mem_of_getElem? (i := 300) (by decide +kernel), by decide +kernel⟩
theorem q_255 : (Cond.methodLink "java/lang/IndexOutOfBoundsException" (7 : Nat) ⟨"java/lang/RuntimeException", "<init>", "(Ljava/lang/String;)V"⟩) ∈ lw_all := List.mem_filter.mpr ⟨List.mem_of_getElem? (i := 301) (by decide +kernel), by decide +kernel⟩
theorem q_256 : (Cond.lays "java/lang/ArrayIndexOutOfBoundsException" "java/lang/Throwable" "backtrace" "Ljava/lang/Object;") ∈ lw_all := List.mem_filter.mpr ⟨List.mem_of_getElem? (i := 302) (by decide +kernel), by decide +kernel⟩
theorem q_257 : (Cond.lays "java/lang/ArrayIndexOutOfBoundsException" "java/lang/Throwable" "detailMessage" "Ljava/lang/String;") ∈ lw_all := List.mem_filter.mpr ⟨List.mem_of_getElem? (i := 303) (by decide +kernel), by decide +kernel⟩
theorem q_258 : (Cond.lays "java/lang/ArrayIndexOutOfBoundsException" "java/lang/Throwable" "cause" "Ljava/lang/Throwable;") ∈ lw_all := List.mem_filter.mpr ⟨List.mem_of_getElem? (i := 304) (by decide +kernel), by decide +kernel⟩
theorem q_259 : (Cond.lays "java/lang/ArrayIndexOutOfBoundsException" "java/lang/Throwable" "stackTrace" "[Ljava/lang/StackTraceElement;") ∈ lw_all := List.mem_filter.mpr ⟨List.mem_of_getElem? (i := 305) (by decide +kernel), by decide +kernel⟩
theorem q_260 : (Cond.lays "java/lang/ArrayIndexOutOfBoundsException" "java/lang/Throwable" "depth" "I") ∈ lw_all := List.mem_filter.mpr ⟨List.mem_of_getElem? (i := 306) (by decide +kernel), by decide +kernel⟩
theorem q_261 : (Cond.lays "java/lang/ArrayIndexOutOfBoundsException" "java/lang/Throwable" "suppressedExceptions" "Ljava/util/List;") ∈ lw_all := List.mem_filter.mpr ⟨List.mem_of_getElem? (i := 307) (by decide +kernel), by decide +kernel⟩
theorem q_266 : (Cond.selects "java/lang/ArrayIndexOutOfBoundsException" ⟨"java/lang/Throwable", "fillInStackTrace", "(I)Ljava/lang/Throwable;"⟩ ⟨"java/lang/Throwable", "fillInStackTrace", "(I)Ljava/lang/Throwable;"⟩) ∈ lw_all := List.mem_filter.mpr ⟨List.mem_of_getElem? (i := 312) (by decide +kernel), by decide +kernel⟩
theorem q_267 : (Cond.instantiable "java/lang/String" (4 : Nat)) ∈ lw_all := List.mem_filter.mpr ⟨List.mem_of_getElem? (i := 313) (by decide +kernel), by decide +kernel⟩
theorem q_268 : (Cond.laysFinal "java/lang/String" "java/lang/String" "value" "[B") ∈ lw_all := List.mem_filter.mpr ⟨List.mem_of_getElem? (i := 314) (by decide +kernel), by decide +kernel⟩
theorem q_270 : (Cond.laysFinal "java/lang/String" "java/lang/String" "coder" "B") ∈ lw_all := List.mem_filter.mpr ⟨List.mem_of_getElem? (i := 316) (by decide +kernel), by decide +kernel⟩
theorem q_272 : (Cond.methodLink "MilkRoundLaw" (17 : Nat) yX2_addCow) ∈ lw_all := List.mem_filter.mpr ⟨List.mem_of_getElem? (i := 318) (by decide +kernel), by decide +kernel⟩
theorem q_273 : (Cond.instanceMethod yX2_addCow) ∈ lw_all := List.mem_filter.mpr ⟨List.mem_of_getElem? (i := 319) (by decide +kernel), by decide +kernel⟩
theorem q_274 : (Cond.selects "MilkRound" yX2_addCow yX2_addCow) ∈ lw_all := List.mem_filter.mpr ⟨List.mem_of_getElem? (i := 320) (by decide +kernel), by decide +kernel⟩
theorem q_275 : (Cond.code yX2_addCow prog_1_method_3_code (3 : Nat) (Option.some Jvm.ClassFile.FieldType.int)) ∈ lw_all := List.mem_filter.mpr ⟨List.mem_of_getElem? (i := 321) (by decide +kernel), by decide +kernel⟩
theorem q_276 : (Cond.methodLink "MilkRound" (67 : Nat) yX2_requireFarm) ∈ lw_all := List.mem_filter.mpr ⟨List.mem_of_getElem? (i := 322) (by decide +kernel), by decide +kernel⟩
theorem q_278 : (Cond.instanceMethod yX2_requireFarm) ∈ lw_all := List.mem_filter.mpr ⟨List.mem_of_getElem? (i := 324) (by decide +kernel), by decide +kernel⟩
theorem q_279 : (Cond.code yX2_requireFarm prog_1_method_33_code (2 : Nat) (Option.none : Option Jvm.ClassFile.FieldType)) ∈ lw_all := List.mem_filter.mpr ⟨List.mem_of_getElem? (i := 325) (by decide +kernel), by decide +kernel⟩
theorem q_280 : (Cond.classLink "MilkRound" (227 : Nat) "java/lang/IndexOutOfBoundsException") ∈ lw_all := List.mem_filter.mpr ⟨List.mem_of_getElem? (i := 326) (by decide +kernel), by decide +kernel⟩
theorem q_281 : (Cond.instantiable "java/lang/IndexOutOfBoundsException" (6 : Nat)) ∈ lw_all := List.mem_filter.mpr ⟨List.mem_of_getElem? (i := 327) (by decide +kernel), by decide +kernel⟩
theorem q_283 : (Cond.selects "java/lang/IndexOutOfBoundsException" ⟨"java/lang/Throwable", "fillInStackTrace", "(I)Ljava/lang/Throwable;"⟩ ⟨"java/lang/Throwable", "fillInStackTrace", "(I)Ljava/lang/Throwable;"⟩) ∈ lw_all := List.mem_filter.mpr ⟨List.mem_of_getElem? (i := 329) (by decide +kernel), by decide +kernel⟩
theorem q_284 : (Cond.lays "java/lang/IndexOutOfBoundsException" "java/lang/Throwable" "cause" "Ljava/lang/Throwable;") ∈ lw_all := List.mem_filter.mpr ⟨List.mem_of_getElem? (i := 330) (by decide +kernel), by decide +kernel⟩
theorem q_285 : (Cond.lays "java/lang/IndexOutOfBoundsException" "java/lang/Throwable" "stackTrace" "[Ljava/lang/StackTraceElement;") ∈ lw_all := List.mem_filter.mpr ⟨List.mem_of_getElem? (i := 331) (by decide +kernel), by decide +kernel⟩
theorem q_286 : (Cond.lays "java/lang/IndexOutOfBoundsException" "java/lang/Throwable" "suppressedExceptions" "Ljava/util/List;") ∈ lw_all := List.mem_filter.mpr ⟨List.mem_of_getElem? (i := 332) (by decide +kernel), by decide +kernel⟩
theorem q_287 : (Cond.lays "java/lang/IndexOutOfBoundsException" "java/lang/Throwable" "detailMessage" "Ljava/lang/String;") ∈ lw_all := List.mem_filter.mpr ⟨List.mem_of_getElem? (i := 333) (by decide +kernel), by decide +kernel⟩
theorem q_288 : (Cond.lays "java/lang/IndexOutOfBoundsException" "java/lang/Throwable" "backtrace" "Ljava/lang/Object;") ∈ lw_all := List.mem_filter.mpr ⟨List.mem_of_getElem? (i := 334) (by decide +kernel), by decide +kernel⟩
theorem q_290 : (Cond.methodLink "MilkRound" (231 : Nat) ⟨"java/lang/IndexOutOfBoundsException", "<init>", "(Ljava/lang/String;)V"⟩) ∈ lw_all := List.mem_filter.mpr ⟨List.mem_of_getElem? (i := 336) (by decide +kernel), by decide +kernel⟩
theorem q_291 : (Cond.lays "java/lang/IndexOutOfBoundsException" "java/lang/Throwable" "depth" "I") ∈ lw_all := List.mem_filter.mpr ⟨List.mem_of_getElem? (i := 337) (by decide +kernel), by decide +kernel⟩
theorem q_297 : (Cond.instanceMethod yX0_addCowTo) ∈ lw_all := List.mem_filter.mpr ⟨List.mem_of_getElem? (i := 343) (by decide +kernel), by decide +kernel⟩
theorem q_298 : (Cond.code yX0_addCowTo prog_2_method_3_code (3 : Nat) (Option.some Jvm.ClassFile.FieldType.int)) ∈ lw_all := List.mem_filter.mpr ⟨List.mem_of_getElem? (i := 344) (by decide +kernel), by decide +kernel⟩
theorem q_299 : (Cond.methodLink "MilkRoundLaw" (124 : Nat) yL_milkOf) ∈ lw_all := List.mem_filter.mpr ⟨List.mem_of_getElem? (i := 345) (by decide +kernel), by decide +kernel⟩
theorem q_300 : (Cond.static yL_milkOf) ∈ lw_all := List.mem_filter.mpr ⟨List.mem_of_getElem? (i := 346) (by decide +kernel), by decide +kernel⟩
theorem q_301 : (Cond.codeWith yL_milkOf method_5_code (5 : Nat) (Option.some Jvm.ClassFile.FieldType.int) [((0 : Nat), (10 : Nat), (13 : Nat), (21 : Nat)), ((0 : Nat), (10 : Nat), (17 : Nat), (13 : Nat))]) ∈ lw_all := List.mem_filter.mpr ⟨List.mem_of_getElem? (i := 347) (by decide +kernel), by decide +kernel⟩
theorem q_302 : (Cond.methodLink "MilkRoundLaw" (23 : Nat) yX2_milkOf) ∈ lw_all := List.mem_filter.mpr ⟨List.mem_of_getElem? (i := 348) (by decide +kernel), by decide +kernel⟩
theorem q_303 : (Cond.instanceMethod yX2_milkOf) ∈ lw_all := List.mem_filter.mpr ⟨List.mem_of_getElem? (i := 349) (by decide +kernel), by decide +kernel⟩
theorem q_304 : (Cond.selects "MilkRound" yX2_milkOf yX2_milkOf) ∈ lw_all := List.mem_filter.mpr ⟨List.mem_of_getElem? (i := 350) (by decide +kernel), by decide +kernel⟩
theorem q_305 : (Cond.code yX2_milkOf prog_1_method_4_code (3 : Nat) (Option.some Jvm.ClassFile.FieldType.int)) ∈ lw_all := List.mem_filter.mpr ⟨List.mem_of_getElem? (i := 351) (by decide +kernel), by decide +kernel⟩
theorem q_309 : (Cond.instanceMethod yX0_milkOn) ∈ lw_all := List.mem_filter.mpr ⟨List.mem_of_getElem? (i := 355) (by decide +kernel), by decide +kernel⟩
theorem q_310 : (Cond.code yX0_milkOn prog_2_method_4_code (5 : Nat) (Option.some Jvm.ClassFile.FieldType.int)) ∈ lw_all := List.mem_filter.mpr ⟨List.mem_of_getElem? (i := 356) (by decide +kernel), by decide +kernel⟩
theorem q_311 : (Cond.methodLink "MilkRound$Farms" (30 : Nat) yX0_milkOfCow) ∈ lw_all := List.mem_filter.mpr ⟨List.mem_of_getElem? (i := 357) (by decide +kernel), by decide +kernel⟩
theorem q_312 : (Cond.static yX0_milkOfCow) ∈ lw_all := List.mem_filter.mpr ⟨List.mem_of_getElem? (i := 358) (by decide +kernel), by decide +kernel⟩
theorem q_313 : (Cond.code yX0_milkOfCow prog_2_method_5_code (2 : Nat) (Option.some Jvm.ClassFile.FieldType.int)) ∈ lw_all := List.mem_filter.mpr ⟨List.mem_of_getElem? (i := 359) (by decide +kernel), by decide +kernel⟩
theorem q_314 : (Cond.methodLink "MilkRound$Farms" (34 : Nat) ⟨"java/lang/Math", "abs", "(I)I"⟩) ∈ lw_all := List.mem_filter.mpr ⟨List.mem_of_getElem? (i := 360) (by decide +kernel), by decide +kernel⟩
theorem q_315 : (Cond.static ⟨"java/lang/Math", "abs", "(I)I"⟩) ∈ lw_all := List.mem_filter.mpr ⟨List.mem_of_getElem? (i := 361) (by decide +kernel), by decide +kernel⟩
theorem q_316 : (Cond.code ⟨"java/lang/Math", "abs", "(I)I"⟩ prog_13_method_59_code (1 : Nat) (Option.some Jvm.ClassFile.FieldType.int)) ∈ lw_all := List.mem_filter.mpr ⟨List.mem_of_getElem? (i := 362) (by decide +kernel), by decide +kernel⟩
theorem q_317 : (Cond.methodLink "MilkRound$Farms" (40 : Nat) ⟨"java/lang/Math", "max", "(II)I"⟩) ∈ lw_all := List.mem_filter.mpr ⟨List.mem_of_getElem? (i := 363) (by decide +kernel), by decide +kernel⟩
theorem q_318 : (Cond.static ⟨"java/lang/Math", "max", "(II)I"⟩) ∈ lw_all := List.mem_filter.mpr ⟨List.mem_of_getElem? (i := 364) (by decide +kernel), by decide +kernel⟩
theorem q_319 : (Cond.code ⟨"java/lang/Math", "max", "(II)I"⟩ prog_13_method_65_code (2 : Nat) (Option.some Jvm.ClassFile.FieldType.int)) ∈ lw_all := List.mem_filter.mpr ⟨List.mem_of_getElem? (i := 365) (by decide +kernel), by decide +kernel⟩
theorem q_320 : (Cond.methodLink "MilkRoundLaw" (127 : Nat) yL_inTank) ∈ lw_all := List.mem_filter.mpr ⟨List.mem_of_getElem? (i := 366) (by decide +kernel), by decide +kernel⟩
theorem q_321 : (Cond.static yL_inTank) ∈ lw_all := List.mem_filter.mpr ⟨List.mem_of_getElem? (i := 367) (by decide +kernel), by decide +kernel⟩
theorem q_322 : (Cond.codeWith yL_inTank method_6_code (4 : Nat) (Option.some Jvm.ClassFile.FieldType.int) [((0 : Nat), (9 : Nat), (12 : Nat), (21 : Nat))]) ∈ lw_all := List.mem_filter.mpr ⟨List.mem_of_getElem? (i := 368) (by decide +kernel), by decide +kernel⟩
theorem q_323 : (Cond.methodLink "MilkRoundLaw" (26 : Nat) yX2_inTank) ∈ lw_all := List.mem_filter.mpr ⟨List.mem_of_getElem? (i := 369) (by decide +kernel), by decide +kernel⟩
theorem q_324 : (Cond.instanceMethod yX2_inTank) ∈ lw_all := List.mem_filter.mpr ⟨List.mem_of_getElem? (i := 370) (by decide +kernel), by decide +kernel⟩
theorem q_325 : (Cond.selects "MilkRound" yX2_inTank yX2_inTank) ∈ lw_all := List.mem_filter.mpr ⟨List.mem_of_getElem? (i := 371) (by decide +kernel), by decide +kernel⟩
theorem q_326 : (Cond.code yX2_inTank prog_1_method_5_code (2 : Nat) (Option.some Jvm.ClassFile.FieldType.int)) ∈ lw_all := List.mem_filter.mpr ⟨List.mem_of_getElem? (i := 372) (by decide +kernel), by decide +kernel⟩
theorem q_327 : (Cond.methodLink "MilkRoundLaw" (130 : Nat) yL_pass) ∈ lw_all := List.mem_filter.mpr ⟨List.mem_of_getElem? (i := 373) (by decide +kernel), by decide +kernel⟩
theorem q_328 : (Cond.static yL_pass) ∈ lw_all := List.mem_filter.mpr ⟨List.mem_of_getElem? (i := 374) (by decide +kernel), by decide +kernel⟩
theorem q_329 : (Cond.codeWith yL_pass method_7_code (4 : Nat) (Option.some Jvm.ClassFile.FieldType.int) [((0 : Nat), (9 : Nat), (12 : Nat), (13 : Nat))]) ∈ lw_all := List.mem_filter.mpr ⟨List.mem_of_getElem? (i := 375) (by decide +kernel), by decide +kernel⟩
theorem q_330 : (Cond.methodLink "MilkRoundLaw" (29 : Nat) yX2_pass) ∈ lw_all := List.mem_filter.mpr ⟨List.mem_of_getElem? (i := 376) (by decide +kernel), by decide +kernel⟩
theorem q_331 : (Cond.instanceMethod yX2_pass) ∈ lw_all := List.mem_filter.mpr ⟨List.mem_of_getElem? (i := 377) (by decide +kernel), by decide +kernel⟩
theorem q_332 : (Cond.selects "MilkRound" yX2_pass yX2_pass) ∈ lw_all := List.mem_filter.mpr ⟨List.mem_of_getElem? (i := 378) (by decide +kernel), by decide +kernel⟩
theorem q_333 : (Cond.code yX2_pass prog_1_method_6_code (4 : Nat) (Option.some Jvm.ClassFile.FieldType.int)) ∈ lw_all := List.mem_filter.mpr ⟨List.mem_of_getElem? (i := 379) (by decide +kernel), by decide +kernel⟩
theorem q_337 : (Cond.instanceMethod yX0_milkAll) ∈ lw_all := List.mem_filter.mpr ⟨List.mem_of_getElem? (i := 383) (by decide +kernel), by decide +kernel⟩
theorem q_338 : (Cond.code yX0_milkAll prog_2_method_6_code (6 : Nat) (Option.some Jvm.ClassFile.FieldType.int)) ∈ lw_all := List.mem_filter.mpr ⟨List.mem_of_getElem? (i := 384) (by decide +kernel), by decide +kernel⟩
theorem q_339 : (Cond.methodLink "MilkRound$Farms" (43 : Nat) yX0_milkOn) ∈ lw_all := List.mem_filter.mpr ⟨List.mem_of_getElem? (i := 385) (by decide +kernel), by decide +kernel⟩
theorem q_340 : (Cond.methodLink "MilkRound$Farms" (46 : Nat) ⟨"java/lang/Math", "min", "(II)I"⟩) ∈ lw_all := List.mem_filter.mpr ⟨List.mem_of_getElem? (i := 386) (by decide +kernel), by decide +kernel⟩
theorem q_341 : (Cond.static ⟨"java/lang/Math", "min", "(II)I"⟩) ∈ lw_all := List.mem_filter.mpr ⟨List.mem_of_getElem? (i := 387) (by decide +kernel), by decide +kernel⟩
theorem q_342 : (Cond.code ⟨"java/lang/Math", "min", "(II)I"⟩ prog_13_method_69_code (2 : Nat) (Option.some Jvm.ClassFile.FieldType.int)) ∈ lw_all := List.mem_filter.mpr ⟨List.mem_of_getElem? (i := 388) (by decide +kernel), by decide +kernel⟩
theorem q_343 : (Cond.methodLink "MilkRoundLaw" (137 : Nat) yL_addVat) ∈ lw_all := List.mem_filter.mpr ⟨List.mem_of_getElem? (i := 389) (by decide +kernel), by decide +kernel⟩
theorem q_344 : (Cond.static yL_addVat) ∈ lw_all := List.mem_filter.mpr ⟨List.mem_of_getElem? (i := 390) (by decide +kernel), by decide +kernel⟩
theorem q_345 : (Cond.codeWith yL_addVat method_8_code (4 : Nat) (Option.some Jvm.ClassFile.FieldType.int) [((0 : Nat), (9 : Nat), (12 : Nat), (13 : Nat)), ((0 : Nat), (9 : Nat), (15 : Nat), (15 : Nat))]) ∈ lw_all := List.mem_filter.mpr ⟨List.mem_of_getElem? (i := 391) (by decide +kernel), by decide +kernel⟩
theorem q_346 : (Cond.methodLink "MilkRoundLaw" (32 : Nat) yX2_addVat) ∈ lw_all := List.mem_filter.mpr ⟨List.mem_of_getElem? (i := 392) (by decide +kernel), by decide +kernel⟩
theorem q_347 : (Cond.instanceMethod yX2_addVat) ∈ lw_all := List.mem_filter.mpr ⟨List.mem_of_getElem? (i := 393) (by decide +kernel), by decide +kernel⟩
theorem q_348 : (Cond.selects "MilkRound" yX2_addVat yX2_addVat) ∈ lw_all := List.mem_filter.mpr ⟨List.mem_of_getElem? (i := 394) (by decide +kernel), by decide +kernel⟩
theorem q_349 : (Cond.code yX2_addVat prog_1_method_8_code (2 : Nat) (Option.some Jvm.ClassFile.FieldType.int)) ∈ lw_all := List.mem_filter.mpr ⟨List.mem_of_getElem? (i := 395) (by decide +kernel), by decide +kernel⟩
theorem q_352 : (Cond.methodLink "MilkRoundLaw" (140 : Nat) yL_beginRound) ∈ lw_all := List.mem_filter.mpr ⟨List.mem_of_getElem? (i := 398) (by decide +kernel), by decide +kernel⟩
theorem q_353 : (Cond.static yL_beginRound) ∈ lw_all := List.mem_filter.mpr ⟨List.mem_of_getElem? (i := 399) (by decide +kernel), by decide +kernel⟩
theorem q_354 : (Cond.codeWith yL_beginRound method_9_code (3 : Nat) (Option.some Jvm.ClassFile.FieldType.int) [((0 : Nat), (8 : Nat), (11 : Nat), (15 : Nat))]) ∈ lw_all := List.mem_filter.mpr ⟨List.mem_of_getElem? (i := 400) (by decide +kernel), by decide +kernel⟩
theorem q_355 : (Cond.methodLink "MilkRoundLaw" (35 : Nat) yX2_beginRound) ∈ lw_all := List.mem_filter.mpr ⟨List.mem_of_getElem? (i := 401) (by decide +kernel), by decide +kernel⟩
theorem q_356 : (Cond.instanceMethod yX2_beginRound) ∈ lw_all := List.mem_filter.mpr ⟨List.mem_of_getElem? (i := 402) (by decide +kernel), by decide +kernel⟩
theorem q_357 : (Cond.selects "MilkRound" yX2_beginRound yX2_beginRound) ∈ lw_all := List.mem_filter.mpr ⟨List.mem_of_getElem? (i := 403) (by decide +kernel), by decide +kernel⟩
theorem q_358 : (Cond.code yX2_beginRound prog_1_method_9_code (2 : Nat) (Option.some Jvm.ClassFile.FieldType.int)) ∈ lw_all := List.mem_filter.mpr ⟨List.mem_of_getElem? (i := 404) (by decide +kernel), by decide +kernel⟩
theorem q_360 : (Cond.methodLink "MilkRoundLaw" (144 : Nat) yL_visit) ∈ lw_all := List.mem_filter.mpr ⟨List.mem_of_getElem? (i := 406) (by decide +kernel), by decide +kernel⟩
theorem q_361 : (Cond.static yL_visit) ∈ lw_all := List.mem_filter.mpr ⟨List.mem_of_getElem? (i := 407) (by decide +kernel), by decide +kernel⟩
theorem q_362 : (Cond.codeWith yL_visit method_10_code (4 : Nat) (Option.some Jvm.ClassFile.FieldType.int) [((0 : Nat), (9 : Nat), (12 : Nat), (21 : Nat)), ((0 : Nat), (9 : Nat), (15 : Nat), (15 : Nat))]) ∈ lw_all := List.mem_filter.mpr ⟨List.mem_of_getElem? (i := 408) (by decide +kernel), by decide +kernel⟩
theorem q_363 : (Cond.methodLink "MilkRoundLaw" (39 : Nat) yX2_visit) ∈ lw_all := List.mem_filter.mpr ⟨List.mem_of_getElem? (i := 409) (by decide +kernel), by decide +kernel⟩
theorem q_364 : (Cond.instanceMethod yX2_visit) ∈ lw_all := List.mem_filter.mpr ⟨List.mem_of_getElem? (i := 410) (by decide +kernel), by decide +kernel⟩
theorem q_365 : (Cond.selects "MilkRound" yX2_visit yX2_visit) ∈ lw_all := List.mem_filter.mpr ⟨List.mem_of_getElem? (i := 411) (by decide +kernel), by decide +kernel⟩
theorem q_366 : (Cond.code yX2_visit prog_1_method_10_code (3 : Nat) (Option.some Jvm.ClassFile.FieldType.int)) ∈ lw_all := List.mem_filter.mpr ⟨List.mem_of_getElem? (i := 412) (by decide +kernel), by decide +kernel⟩
theorem q_370 : (Cond.methodLink "MilkRound" (108 : Nat) yX2_inTanker) ∈ lw_all := List.mem_filter.mpr ⟨List.mem_of_getElem? (i := 416) (by decide +kernel), by decide +kernel⟩
theorem q_373 : (Cond.instanceMethod yX0_draw) ∈ lw_all := List.mem_filter.mpr ⟨List.mem_of_getElem? (i := 419) (by decide +kernel), by decide +kernel⟩
theorem q_374 : (Cond.code yX0_draw prog_2_method_7_code (4 : Nat) (Option.some Jvm.ClassFile.FieldType.int)) ∈ lw_all := List.mem_filter.mpr ⟨List.mem_of_getElem? (i := 420) (by decide +kernel), by decide +kernel⟩
theorem q_377 : (Cond.instanceMethod yX1_add) ∈ lw_all := List.mem_filter.mpr ⟨List.mem_of_getElem? (i := 423) (by decide +kernel), by decide +kernel⟩
theorem q_378 : (Cond.code yX1_add prog_3_method_2_code (3 : Nat) (Option.none : Option Jvm.ClassFile.FieldType)) ∈ lw_all := List.mem_filter.mpr ⟨List.mem_of_getElem? (i := 424) (by decide +kernel), by decide +kernel⟩
theorem q_379 : (Cond.methodLink "MilkRoundLaw" (147 : Nat) yL_endRound) ∈ lw_all := List.mem_filter.mpr ⟨List.mem_of_getElem? (i := 425) (by decide +kernel), by decide +kernel⟩
theorem q_380 : (Cond.static yL_endRound) ∈ lw_all := List.mem_filter.mpr ⟨List.mem_of_getElem? (i := 426) (by decide +kernel), by decide +kernel⟩
theorem q_381 : (Cond.codeWith yL_endRound method_11_code (4 : Nat) (Option.some Jvm.ClassFile.FieldType.int) [((0 : Nat), (9 : Nat), (12 : Nat), (21 : Nat)), ((0 : Nat), (9 : Nat), (15 : Nat), (15 : Nat)), ((0 : Nat), (9 : Nat), (18 : Nat), (45 : Nat))]) ∈ lw_all := List.mem_filter.mpr ⟨List.mem_of_getElem? (i := 427) (by decide +kernel), by decide +kernel⟩
theorem q_382 : (Cond.classLink "MilkRoundLaw" (45 : Nat) "java/lang/UnsupportedOperationException") ∈ lw_all := List.mem_filter.mpr ⟨List.mem_of_getElem? (i := 428) (by decide +kernel), by decide +kernel⟩
theorem q_383 : (Cond.methodLink "MilkRoundLaw" (42 : Nat) yX2_endRound) ∈ lw_all := List.mem_filter.mpr ⟨List.mem_of_getElem? (i := 429) (by decide +kernel), by decide +kernel⟩
theorem q_384 : (Cond.instanceMethod yX2_endRound) ∈ lw_all := List.mem_filter.mpr ⟨List.mem_of_getElem? (i := 430) (by decide +kernel), by decide +kernel⟩
theorem q_385 : (Cond.selects "MilkRound" yX2_endRound yX2_endRound) ∈ lw_all := List.mem_filter.mpr ⟨List.mem_of_getElem? (i := 431) (by decide +kernel), by decide +kernel⟩
theorem q_386 : (Cond.code yX2_endRound prog_1_method_11_code (2 : Nat) (Option.some Jvm.ClassFile.FieldType.int)) ∈ lw_all := List.mem_filter.mpr ⟨List.mem_of_getElem? (i := 432) (by decide +kernel), by decide +kernel⟩
theorem q_387 : (Cond.methodLink "MilkRound" (118 : Nat) yX2_requireVat) ∈ lw_all := List.mem_filter.mpr ⟨List.mem_of_getElem? (i := 433) (by decide +kernel), by decide +kernel⟩
theorem q_389 : (Cond.instanceMethod yX2_requireVat) ∈ lw_all := List.mem_filter.mpr ⟨List.mem_of_getElem? (i := 435) (by decide +kernel), by decide +kernel⟩
theorem q_390 : (Cond.code yX2_requireVat prog_1_method_34_code (2 : Nat) (Option.none : Option Jvm.ClassFile.FieldType)) ∈ lw_all := List.mem_filter.mpr ⟨List.mem_of_getElem? (i := 436) (by decide +kernel), by decide +kernel⟩
theorem q_392 : (Cond.methodLink "MilkRound" (121 : Nat) yX2_freeRoom) ∈ lw_all := List.mem_filter.mpr ⟨List.mem_of_getElem? (i := 438) (by decide +kernel), by decide +kernel⟩
theorem q_394 : (Cond.instanceMethod yX2_freeRoom) ∈ lw_all := List.mem_filter.mpr ⟨List.mem_of_getElem? (i := 440) (by decide +kernel), by decide +kernel⟩
theorem q_395 : (Cond.code yX2_freeRoom prog_1_method_32_code (2 : Nat) (Option.some Jvm.ClassFile.FieldType.int)) ∈ lw_all := List.mem_filter.mpr ⟨List.mem_of_getElem? (i := 441) (by decide +kernel), by decide +kernel⟩
theorem q_396 : (Cond.methodLink "MilkRound" (139 : Nat) yX2_inVat) ∈ lw_all := List.mem_filter.mpr ⟨List.mem_of_getElem? (i := 442) (by decide +kernel), by decide +kernel⟩
theorem q_397 : (Cond.instanceMethod yX2_inVat) ∈ lw_all := List.mem_filter.mpr ⟨List.mem_of_getElem? (i := 443) (by decide +kernel), by decide +kernel⟩
theorem q_398 : (Cond.selects "MilkRound" yX2_inVat yX2_inVat) ∈ lw_all := List.mem_filter.mpr ⟨List.mem_of_getElem? (i := 444) (by decide +kernel), by decide +kernel⟩
theorem q_399 : (Cond.code yX2_inVat prog_1_method_13_code (2 : Nat) (Option.some Jvm.ClassFile.FieldType.int)) ∈ lw_all := List.mem_filter.mpr ⟨List.mem_of_getElem? (i := 445) (by decide +kernel), by decide +kernel⟩
theorem q_400 : (Cond.classLink "MilkRound" (124 : Nat) "java/lang/UnsupportedOperationException") ∈ lw_all := List.mem_filter.mpr ⟨List.mem_of_getElem? (i := 446) (by decide +kernel), by decide +kernel⟩
theorem q_401 : (Cond.instantiable "java/lang/UnsupportedOperationException" (6 : Nat)) ∈ lw_all := List.mem_filter.mpr ⟨List.mem_of_getElem? (i := 447) (by decide +kernel), by decide +kernel⟩
theorem q_403 : (Cond.selects "java/lang/UnsupportedOperationException" ⟨"java/lang/Throwable", "fillInStackTrace", "(I)Ljava/lang/Throwable;"⟩ ⟨"java/lang/Throwable", "fillInStackTrace", "(I)Ljava/lang/Throwable;"⟩) ∈ lw_all := List.mem_filter.mpr ⟨List.mem_of_getElem? (i := 449) (by decide +kernel), by decide +kernel⟩
theorem q_404 : (Cond.lays "java/lang/UnsupportedOperationException" "java/lang/Throwable" "cause" "Ljava/lang/Throwable;") ∈ lw_all := List.mem_filter.mpr ⟨List.mem_of_getElem? (i := 450) (by decide +kernel), by decide +kernel⟩
theorem q_405 : (Cond.lays "java/lang/UnsupportedOperationException" "java/lang/Throwable" "stackTrace" "[Ljava/lang/StackTraceElement;") ∈ lw_all := List.mem_filter.mpr ⟨List.mem_of_getElem? (i := 451) (by decide +kernel), by decide +kernel⟩
theorem q_406 : (Cond.lays "java/lang/UnsupportedOperationException" "java/lang/Throwable" "suppressedExceptions" "Ljava/util/List;") ∈ lw_all := List.mem_filter.mpr ⟨List.mem_of_getElem? (i := 452) (by decide +kernel), by decide +kernel⟩
theorem q_407 : (Cond.lays "java/lang/UnsupportedOperationException" "java/lang/Throwable" "detailMessage" "Ljava/lang/String;") ∈ lw_all := List.mem_filter.mpr ⟨List.mem_of_getElem? (i := 453) (by decide +kernel), by decide +kernel⟩
theorem q_408 : (Cond.lays "java/lang/UnsupportedOperationException" "java/lang/Throwable" "backtrace" "Ljava/lang/Object;") ∈ lw_all := List.mem_filter.mpr ⟨List.mem_of_getElem? (i := 454) (by decide +kernel), by decide +kernel⟩
theorem q_410 : (Cond.methodLink "MilkRound" (128 : Nat) ⟨"java/lang/UnsupportedOperationException", "<init>", "(Ljava/lang/String;)V"⟩) ∈ lw_all := List.mem_filter.mpr ⟨List.mem_of_getElem? (i := 456) (by decide +kernel), by decide +kernel⟩
theorem q_411 : (Cond.instanceMethod ⟨"java/lang/UnsupportedOperationException", "<init>", "(Ljava/lang/String;)V"⟩) ∈ lw_all := List.mem_filter.mpr ⟨List.mem_of_getElem? (i := 457) (by decide +kernel), by decide +kernel⟩
theorem q_412 : (Cond.code ⟨"java/lang/UnsupportedOperationException", "<init>", "(Ljava/lang/String;)V"⟩ prog_17_method_2_code (2 : Nat) (Option.none : Option Jvm.ClassFile.FieldType)) ∈ lw_all := List.mem_filter.mpr ⟨List.mem_of_getElem? (i := 458) (by decide +kernel), by decide +kernel⟩
theorem q_413 : (Cond.methodLink "java/lang/UnsupportedOperationException" (7 : Nat) ⟨"java/lang/RuntimeException", "<init>", "(Ljava/lang/String;)V"⟩) ∈ lw_all := List.mem_filter.mpr ⟨List.mem_of_getElem? (i := 459) (by decide +kernel), by decide +kernel⟩
theorem q_414 : (Cond.lays "java/lang/UnsupportedOperationException" "java/lang/Throwable" "depth" "I") ∈ lw_all := List.mem_filter.mpr ⟨List.mem_of_getElem? (i := 460) (by decide +kernel), by decide +kernel⟩
theorem q_418 : (Cond.instanceMethod yX1_countIn) ∈ lw_all := List.mem_filter.mpr ⟨List.mem_of_getElem? (i := 464) (by decide +kernel), by decide +kernel⟩
theorem q_419 : (Cond.code yX1_countIn prog_3_method_5_code (5 : Nat) (Option.some Jvm.ClassFile.FieldType.int)) ∈ lw_all := List.mem_filter.mpr ⟨List.mem_of_getElem? (i := 465) (by decide +kernel), by decide +kernel⟩
theorem q_423 : (Cond.instanceMethod yX1_move) ∈ lw_all := List.mem_filter.mpr ⟨List.mem_of_getElem? (i := 469) (by decide +kernel), by decide +kernel⟩
theorem q_424 : (Cond.code yX1_move prog_3_method_4_code (6 : Nat) (Option.none : Option Jvm.ClassFile.FieldType)) ∈ lw_all := List.mem_filter.mpr ⟨List.mem_of_getElem? (i := 470) (by decide +kernel), by decide +kernel⟩
theorem q_425 : (Cond.methodLink "MilkRoundLaw" (154 : Nat) yL_inVat) ∈ lw_all := List.mem_filter.mpr ⟨List.mem_of_getElem? (i := 471) (by decide +kernel), by decide +kernel⟩
theorem q_426 : (Cond.static yL_inVat) ∈ lw_all := List.mem_filter.mpr ⟨List.mem_of_getElem? (i := 472) (by decide +kernel), by decide +kernel⟩
theorem q_427 : (Cond.codeWith yL_inVat method_12_code (4 : Nat) (Option.some Jvm.ClassFile.FieldType.int) [((0 : Nat), (9 : Nat), (12 : Nat), (21 : Nat))]) ∈ lw_all := List.mem_filter.mpr ⟨List.mem_of_getElem? (i := 473) (by decide +kernel), by decide +kernel⟩
theorem q_428 : (Cond.methodLink "MilkRoundLaw" (47 : Nat) yX2_inVat) ∈ lw_all := List.mem_filter.mpr ⟨List.mem_of_getElem? (i := 474) (by decide +kernel), by decide +kernel⟩
theorem q_429 : (Cond.methodLink "MilkRoundLaw" (157 : Nat) yL_bestVat) ∈ lw_all := List.mem_filter.mpr ⟨List.mem_of_getElem? (i := 475) (by decide +kernel), by decide +kernel⟩
theorem q_430 : (Cond.static yL_bestVat) ∈ lw_all := List.mem_filter.mpr ⟨List.mem_of_getElem? (i := 476) (by decide +kernel), by decide +kernel⟩
theorem q_431 : (Cond.codeWith yL_bestVat method_13_code (3 : Nat) (Option.some Jvm.ClassFile.FieldType.int) [((0 : Nat), (8 : Nat), (11 : Nat), (53 : Nat))]) ∈ lw_all := List.mem_filter.mpr ⟨List.mem_of_getElem? (i := 477) (by decide +kernel), by decide +kernel⟩
theorem q_432 : (Cond.classLink "MilkRoundLaw" (53 : Nat) "java/util/NoSuchElementException") ∈ lw_all := List.mem_filter.mpr ⟨List.mem_of_getElem? (i := 478) (by decide +kernel), by decide +kernel⟩
theorem q_433 : (Cond.methodLink "MilkRoundLaw" (50 : Nat) yX2_bestVat) ∈ lw_all := List.mem_filter.mpr ⟨List.mem_of_getElem? (i := 479) (by decide +kernel), by decide +kernel⟩
theorem q_434 : (Cond.instanceMethod yX2_bestVat) ∈ lw_all := List.mem_filter.mpr ⟨List.mem_of_getElem? (i := 480) (by decide +kernel), by decide +kernel⟩
theorem q_435 : (Cond.selects "MilkRound" yX2_bestVat yX2_bestVat) ∈ lw_all := List.mem_filter.mpr ⟨List.mem_of_getElem? (i := 481) (by decide +kernel), by decide +kernel⟩
theorem q_436 : (Cond.code yX2_bestVat prog_1_method_14_code (6 : Nat) (Option.some Jvm.ClassFile.FieldType.int)) ∈ lw_all := List.mem_filter.mpr ⟨List.mem_of_getElem? (i := 482) (by decide +kernel), by decide +kernel⟩
theorem q_437 : (Cond.classLink "MilkRound" (145 : Nat) "java/util/NoSuchElementException") ∈ lw_all := List.mem_filter.mpr ⟨List.mem_of_getElem? (i := 483) (by decide +kernel), by decide +kernel⟩
theorem q_438 : (Cond.instantiable "java/util/NoSuchElementException" (6 : Nat)) ∈ lw_all := List.mem_filter.mpr ⟨List.mem_of_getElem? (i := 484) (by decide +kernel), by decide +kernel⟩
theorem q_440 : (Cond.selects "java/util/NoSuchElementException" ⟨"java/lang/Throwable", "fillInStackTrace", "(I)Ljava/lang/Throwable;"⟩ ⟨"java/lang/Throwable", "fillInStackTrace", "(I)Ljava/lang/Throwable;"⟩) ∈ lw_all := List.mem_filter.mpr ⟨List.mem_of_getElem? (i := 486) (by decide +kernel), by decide +kernel⟩
theorem q_441 : (Cond.lays "java/util/NoSuchElementException" "java/lang/Throwable" "cause" "Ljava/lang/Throwable;") ∈ lw_all := List.mem_filter.mpr ⟨List.mem_of_getElem? (i := 487) (by decide +kernel), by decide +kernel⟩
theorem q_442 : (Cond.lays "java/util/NoSuchElementException" "java/lang/Throwable" "stackTrace" "[Ljava/lang/StackTraceElement;") ∈ lw_all := List.mem_filter.mpr ⟨List.mem_of_getElem? (i := 488) (by decide +kernel), by decide +kernel⟩
theorem q_443 : (Cond.lays "java/util/NoSuchElementException" "java/lang/Throwable" "suppressedExceptions" "Ljava/util/List;") ∈ lw_all := List.mem_filter.mpr ⟨List.mem_of_getElem? (i := 489) (by decide +kernel), by decide +kernel⟩
theorem q_444 : (Cond.lays "java/util/NoSuchElementException" "java/lang/Throwable" "detailMessage" "Ljava/lang/String;") ∈ lw_all := List.mem_filter.mpr ⟨List.mem_of_getElem? (i := 490) (by decide +kernel), by decide +kernel⟩
theorem q_445 : (Cond.lays "java/util/NoSuchElementException" "java/lang/Throwable" "backtrace" "Ljava/lang/Object;") ∈ lw_all := List.mem_filter.mpr ⟨List.mem_of_getElem? (i := 491) (by decide +kernel), by decide +kernel⟩
theorem q_447 : (Cond.methodLink "MilkRound" (149 : Nat) ⟨"java/util/NoSuchElementException", "<init>", "(Ljava/lang/String;)V"⟩) ∈ lw_all := List.mem_filter.mpr ⟨List.mem_of_getElem? (i := 493) (by decide +kernel), by decide +kernel⟩
theorem q_448 : (Cond.instanceMethod ⟨"java/util/NoSuchElementException", "<init>", "(Ljava/lang/String;)V"⟩) ∈ lw_all := List.mem_filter.mpr ⟨List.mem_of_getElem? (i := 494) (by decide +kernel), by decide +kernel⟩
theorem q_449 : (Cond.code ⟨"java/util/NoSuchElementException", "<init>", "(Ljava/lang/String;)V"⟩ prog_18_method_4_code (2 : Nat) (Option.none : Option Jvm.ClassFile.FieldType)) ∈ lw_all := List.mem_filter.mpr ⟨List.mem_of_getElem? (i := 495) (by decide +kernel), by decide +kernel⟩
theorem q_450 : (Cond.methodLink "java/util/NoSuchElementException" (13 : Nat) ⟨"java/lang/RuntimeException", "<init>", "(Ljava/lang/String;)V"⟩) ∈ lw_all := List.mem_filter.mpr ⟨List.mem_of_getElem? (i := 496) (by decide +kernel), by decide +kernel⟩
theorem q_451 : (Cond.lays "java/util/NoSuchElementException" "java/lang/Throwable" "depth" "I") ∈ lw_all := List.mem_filter.mpr ⟨List.mem_of_getElem? (i := 497) (by decide +kernel), by decide +kernel⟩
theorem q_453 : (Cond.methodLink "MilkRoundLaw" (160 : Nat) yL_close) ∈ lw_all := List.mem_filter.mpr ⟨List.mem_of_getElem? (i := 499) (by decide +kernel), by decide +kernel⟩
theorem q_454 : (Cond.static yL_close) ∈ lw_all := List.mem_filter.mpr ⟨List.mem_of_getElem? (i := 500) (by decide +kernel), by decide +kernel⟩
theorem q_455 : (Cond.codeWith yL_close method_14_code (4 : Nat) (Option.some Jvm.ClassFile.FieldType.int) [((0 : Nat), (9 : Nat), (12 : Nat), (21 : Nat)), ((0 : Nat), (9 : Nat), (15 : Nat), (45 : Nat)), ((0 : Nat), (9 : Nat), (18 : Nat), (15 : Nat))]) ∈ lw_all := List.mem_filter.mpr ⟨List.mem_of_getElem? (i := 501) (by decide +kernel), by decide +kernel⟩
theorem q_456 : (Cond.methodLink "MilkRoundLaw" (55 : Nat) yX2_close) ∈ lw_all := List.mem_filter.mpr ⟨List.mem_of_getElem? (i := 502) (by decide +kernel), by decide +kernel⟩
theorem q_457 : (Cond.instanceMethod yX2_close) ∈ lw_all := List.mem_filter.mpr ⟨List.mem_of_getElem? (i := 503) (by decide +kernel), by decide +kernel⟩
theorem q_458 : (Cond.selects "MilkRound" yX2_close yX2_close) ∈ lw_all := List.mem_filter.mpr ⟨List.mem_of_getElem? (i := 504) (by decide +kernel), by decide +kernel⟩
theorem q_459 : (Cond.code yX2_close prog_1_method_15_code (3 : Nat) (Option.some Jvm.ClassFile.FieldType.int)) ∈ lw_all := List.mem_filter.mpr ⟨List.mem_of_getElem? (i := 505) (by decide +kernel), by decide +kernel⟩
theorem q_464 : (Cond.instanceMethod yX1_settle) ∈ lw_all := List.mem_filter.mpr ⟨List.mem_of_getElem? (i := 510) (by decide +kernel), by decide +kernel⟩
theorem q_465 : (Cond.code yX1_settle prog_3_method_19_code (3 : Nat) (Option.none : Option Jvm.ClassFile.FieldType)) ∈ lw_all := List.mem_filter.mpr ⟨List.mem_of_getElem? (i := 511) (by decide +kernel), by decide +kernel⟩
theorem q_466 : (Cond.methodLink "MilkRound$Samples" (64 : Nat) yX1_isGraded) ∈ lw_all := List.mem_filter.mpr ⟨List.mem_of_getElem? (i := 512) (by decide +kernel), by decide +kernel⟩
theorem q_468 : (Cond.instanceMethod yX1_isGraded) ∈ lw_all := List.mem_filter.mpr ⟨List.mem_of_getElem? (i := 514) (by decide +kernel), by decide +kernel⟩
theorem q_469 : (Cond.code yX1_isGraded prog_3_method_10_code (3 : Nat) (Option.some Jvm.ClassFile.FieldType.boolean)) ∈ lw_all := List.mem_filter.mpr ⟨List.mem_of_getElem? (i := 515) (by decide +kernel), by decide +kernel⟩
theorem q_470 : (Cond.methodLink "MilkRound$Samples" (42 : Nat) yX1_spoiltLitres) ∈ lw_all := List.mem_filter.mpr ⟨List.mem_of_getElem? (i := 516) (by decide +kernel), by decide +kernel⟩
theorem q_472 : (Cond.instanceMethod yX1_spoiltLitres) ∈ lw_all := List.mem_filter.mpr ⟨List.mem_of_getElem? (i := 518) (by decide +kernel), by decide +kernel⟩
theorem q_473 : (Cond.code yX1_spoiltLitres prog_3_method_13_code (4 : Nat) (Option.some Jvm.ClassFile.FieldType.int)) ∈ lw_all := List.mem_filter.mpr ⟨List.mem_of_getElem? (i := 519) (by decide +kernel), by decide +kernel⟩
theorem q_474 : (Cond.methodLink "MilkRound$Samples" (46 : Nat) yX1_isSpoiltIn) ∈ lw_all := List.mem_filter.mpr ⟨List.mem_of_getElem? (i := 520) (by decide +kernel), by decide +kernel⟩
theorem q_476 : (Cond.instanceMethod yX1_isSpoiltIn) ∈ lw_all := List.mem_filter.mpr ⟨List.mem_of_getElem? (i := 522) (by decide +kernel), by decide +kernel⟩
theorem q_477 : (Cond.code yX1_isSpoiltIn prog_3_method_12_code (3 : Nat) (Option.some Jvm.ClassFile.FieldType.boolean)) ∈ lw_all := List.mem_filter.mpr ⟨List.mem_of_getElem? (i := 523) (by decide +kernel), by decide +kernel⟩
theorem q_478 : (Cond.methodLink "MilkRound$Samples" (67 : Nat) yX1_settleBlame) ∈ lw_all := List.mem_filter.mpr ⟨List.mem_of_getElem? (i := 524) (by decide +kernel), by decide +kernel⟩
theorem q_480 : (Cond.instanceMethod yX1_settleBlame) ∈ lw_all := List.mem_filter.mpr ⟨List.mem_of_getElem? (i := 526) (by decide +kernel), by decide +kernel⟩
theorem q_481 : (Cond.code yX1_settleBlame prog_3_method_21_code (6 : Nat) (Option.none : Option Jvm.ClassFile.FieldType)) ∈ lw_all := List.mem_filter.mpr ⟨List.mem_of_getElem? (i := 527) (by decide +kernel), by decide +kernel⟩
theorem q_482 : (Cond.methodLink "MilkRound$Samples" (75 : Nat) yX1_lossOf) ∈ lw_all := List.mem_filter.mpr ⟨List.mem_of_getElem? (i := 528) (by decide +kernel), by decide +kernel⟩
theorem q_484 : (Cond.instanceMethod yX1_lossOf) ∈ lw_all := List.mem_filter.mpr ⟨List.mem_of_getElem? (i := 530) (by decide +kernel), by decide +kernel⟩
theorem q_485 : (Cond.code yX1_lossOf prog_3_method_18_code (2 : Nat) (Option.some Jvm.ClassFile.FieldType.int)) ∈ lw_all := List.mem_filter.mpr ⟨List.mem_of_getElem? (i := 531) (by decide +kernel), by decide +kernel⟩
theorem q_486 : (Cond.methodLink "MilkRound$Samples" (57 : Nat) yX1_isSpoilt) ∈ lw_all := List.mem_filter.mpr ⟨List.mem_of_getElem? (i := 532) (by decide +kernel), by decide +kernel⟩
theorem q_488 : (Cond.instanceMethod yX1_isSpoilt) ∈ lw_all := List.mem_filter.mpr ⟨List.mem_of_getElem? (i := 534) (by decide +kernel), by decide +kernel⟩
theorem q_489 : (Cond.code yX1_isSpoilt prog_3_method_11_code (2 : Nat) (Option.some Jvm.ClassFile.FieldType.boolean)) ∈ lw_all := List.mem_filter.mpr ⟨List.mem_of_getElem? (i := 535) (by decide +kernel), by decide +kernel⟩
theorem q_490 : (Cond.methodLink "MilkRound$Samples" (61 : Nat) yX1_valueOf) ∈ lw_all := List.mem_filter.mpr ⟨List.mem_of_getElem? (i := 536) (by decide +kernel), by decide +kernel⟩
theorem q_492 : (Cond.instanceMethod yX1_valueOf) ∈ lw_all := List.mem_filter.mpr ⟨List.mem_of_getElem? (i := 538) (by decide +kernel), by decide +kernel⟩
theorem q_493 : (Cond.code yX1_valueOf prog_3_method_16_code (4 : Nat) (Option.some Jvm.ClassFile.FieldType.int)) ∈ lw_all := List.mem_filter.mpr ⟨List.mem_of_getElem? (i := 539) (by decide +kernel), by decide +kernel⟩
theorem q_494 : (Cond.methodLink "MilkRound$Samples" (54 : Nat) yX1_valueOfSample) ∈ lw_all := List.mem_filter.mpr ⟨List.mem_of_getElem? (i := 540) (by decide +kernel), by decide +kernel⟩
theorem q_496 : (Cond.instanceMethod yX1_valueOfSample) ∈ lw_all := List.mem_filter.mpr ⟨List.mem_of_getElem? (i := 542) (by decide +kernel), by decide +kernel⟩
theorem q_497 : (Cond.code yX1_valueOfSample prog_3_method_15_code (2 : Nat) (Option.some Jvm.ClassFile.FieldType.int)) ∈ lw_all := List.mem_filter.mpr ⟨List.mem_of_getElem? (i := 543) (by decide +kernel), by decide +kernel⟩
theorem q_498 : (Cond.methodLink "MilkRound$Samples" (50 : Nat) yX1_centsALitre) ∈ lw_all := List.mem_filter.mpr ⟨List.mem_of_getElem? (i := 544) (by decide +kernel), by decide +kernel⟩
theorem q_499 : (Cond.static yX1_centsALitre) ∈ lw_all := List.mem_filter.mpr ⟨List.mem_of_getElem? (i := 545) (by decide +kernel), by decide +kernel⟩
theorem q_500 : (Cond.code yX1_centsALitre prog_3_method_14_code (1 : Nat) (Option.some Jvm.ClassFile.FieldType.int)) ∈ lw_all := List.mem_filter.mpr ⟨List.mem_of_getElem? (i := 546) (by decide +kernel), by decide +kernel⟩
theorem q_501 : (Cond.methodLink "MilkRound$Samples" (71 : Nat) yX1_settlePay) ∈ lw_all := List.mem_filter.mpr ⟨List.mem_of_getElem? (i := 547) (by decide +kernel), by decide +kernel⟩
theorem q_503 : (Cond.instanceMethod yX1_settlePay) ∈ lw_all := List.mem_filter.mpr ⟨List.mem_of_getElem? (i := 549) (by decide +kernel), by decide +kernel⟩
theorem q_504 : (Cond.code yX1_settlePay prog_3_method_20_code (3 : Nat) (Option.none : Option Jvm.ClassFile.FieldType)) ∈ lw_all := List.mem_filter.mpr ⟨List.mem_of_getElem? (i := 550) (by decide +kernel), by decide +kernel⟩
theorem q_505 : (Cond.methodLink "MilkRoundLaw" (167 : Nat) yL_farmOf) ∈ lw_all := List.mem_filter.mpr ⟨List.mem_of_getElem? (i := 551) (by decide +kernel), by decide +kernel⟩
theorem q_506 : (Cond.static yL_farmOf) ∈ lw_all := List.mem_filter.mpr ⟨List.mem_of_getElem? (i := 552) (by decide +kernel), by decide +kernel⟩
theorem q_507 : (Cond.codeWith yL_farmOf method_15_code (4 : Nat) (Option.some Jvm.ClassFile.FieldType.int) [((0 : Nat), (9 : Nat), (12 : Nat), (21 : Nat))]) ∈ lw_all := List.mem_filter.mpr ⟨List.mem_of_getElem? (i := 553) (by decide +kernel), by decide +kernel⟩
theorem q_508 : (Cond.methodLink "MilkRoundLaw" (58 : Nat) yX2_farmOf) ∈ lw_all := List.mem_filter.mpr ⟨List.mem_of_getElem? (i := 554) (by decide +kernel), by decide +kernel⟩
theorem q_509 : (Cond.instanceMethod yX2_farmOf) ∈ lw_all := List.mem_filter.mpr ⟨List.mem_of_getElem? (i := 555) (by decide +kernel), by decide +kernel⟩
theorem q_510 : (Cond.selects "MilkRound" yX2_farmOf yX2_farmOf) ∈ lw_all := List.mem_filter.mpr ⟨List.mem_of_getElem? (i := 556) (by decide +kernel), by decide +kernel⟩
theorem q_511 : (Cond.code yX2_farmOf prog_1_method_17_code (2 : Nat) (Option.some Jvm.ClassFile.FieldType.int)) ∈ lw_all := List.mem_filter.mpr ⟨List.mem_of_getElem? (i := 557) (by decide +kernel), by decide +kernel⟩
theorem q_512 : (Cond.methodLink "MilkRound" (157 : Nat) yX2_requireSample) ∈ lw_all := List.mem_filter.mpr ⟨List.mem_of_getElem? (i := 558) (by decide +kernel), by decide +kernel⟩
theorem q_514 : (Cond.instanceMethod yX2_requireSample) ∈ lw_all := List.mem_filter.mpr ⟨List.mem_of_getElem? (i := 560) (by decide +kernel), by decide +kernel⟩
theorem q_515 : (Cond.code yX2_requireSample prog_1_method_35_code (2 : Nat) (Option.none : Option Jvm.ClassFile.FieldType)) ∈ lw_all := List.mem_filter.mpr ⟨List.mem_of_getElem? (i := 561) (by decide +kernel), by decide +kernel⟩
theorem q_517 : (Cond.methodLink "MilkRoundLaw" (170 : Nat) yL_litres) ∈ lw_all := List.mem_filter.mpr ⟨List.mem_of_getElem? (i := 563) (by decide +kernel), by decide +kernel⟩
theorem q_518 : (Cond.static yL_litres) ∈ lw_all := List.mem_filter.mpr ⟨List.mem_of_getElem? (i := 564) (by decide +kernel), by decide +kernel⟩
theorem q_519 : (Cond.codeWith yL_litres method_16_code (4 : Nat) (Option.some Jvm.ClassFile.FieldType.int) [((0 : Nat), (9 : Nat), (12 : Nat), (21 : Nat))]) ∈ lw_all := List.mem_filter.mpr ⟨List.mem_of_getElem? (i := 565) (by decide +kernel), by decide +kernel⟩
theorem q_520 : (Cond.methodLink "MilkRoundLaw" (61 : Nat) yX2_litres) ∈ lw_all := List.mem_filter.mpr ⟨List.mem_of_getElem? (i := 566) (by decide +kernel), by decide +kernel⟩
theorem q_521 : (Cond.instanceMethod yX2_litres) ∈ lw_all := List.mem_filter.mpr ⟨List.mem_of_getElem? (i := 567) (by decide +kernel), by decide +kernel⟩
theorem q_522 : (Cond.selects "MilkRound" yX2_litres yX2_litres) ∈ lw_all := List.mem_filter.mpr ⟨List.mem_of_getElem? (i := 568) (by decide +kernel), by decide +kernel⟩
theorem q_523 : (Cond.code yX2_litres prog_1_method_18_code (2 : Nat) (Option.some Jvm.ClassFile.FieldType.int)) ∈ lw_all := List.mem_filter.mpr ⟨List.mem_of_getElem? (i := 569) (by decide +kernel), by decide +kernel⟩
theorem q_524 : (Cond.methodLink "MilkRoundLaw" (173 : Nat) yL_grade) ∈ lw_all := List.mem_filter.mpr ⟨List.mem_of_getElem? (i := 570) (by decide +kernel), by decide +kernel⟩
theorem q_525 : (Cond.static yL_grade) ∈ lw_all := List.mem_filter.mpr ⟨List.mem_of_getElem? (i := 571) (by decide +kernel), by decide +kernel⟩
theorem q_526 : (Cond.codeWith yL_grade method_17_code (5 : Nat) (Option.some Jvm.ClassFile.FieldType.int) [((0 : Nat), (10 : Nat), (13 : Nat), (21 : Nat)), ((0 : Nat), (10 : Nat), (17 : Nat), (13 : Nat)), ((0 : Nat), (10 : Nat), (21 : Nat), (15 : Nat))]) ∈ lw_all := List.mem_filter.mpr ⟨List.mem_of_getElem? (i := 572) (by decide +kernel), by decide +kernel⟩
theorem q_527 : (Cond.methodLink "MilkRoundLaw" (64 : Nat) yX2_grade) ∈ lw_all := List.mem_filter.mpr ⟨List.mem_of_getElem? (i := 573) (by decide +kernel), by decide +kernel⟩
theorem q_528 : (Cond.instanceMethod yX2_grade) ∈ lw_all := List.mem_filter.mpr ⟨List.mem_of_getElem? (i := 574) (by decide +kernel), by decide +kernel⟩
theorem q_529 : (Cond.selects "MilkRound" yX2_grade yX2_grade) ∈ lw_all := List.mem_filter.mpr ⟨List.mem_of_getElem? (i := 575) (by decide +kernel), by decide +kernel⟩
theorem q_530 : (Cond.code yX2_grade prog_1_method_19_code (3 : Nat) (Option.some Jvm.ClassFile.FieldType.int)) ∈ lw_all := List.mem_filter.mpr ⟨List.mem_of_getElem? (i := 576) (by decide +kernel), by decide +kernel⟩
theorem q_535 : (Cond.instanceMethod yX1_ungraded) ∈ lw_all := List.mem_filter.mpr ⟨List.mem_of_getElem? (i := 581) (by decide +kernel), by decide +kernel⟩
theorem q_536 : (Cond.code yX1_ungraded prog_3_method_8_code (3 : Nat) (Option.some Jvm.ClassFile.FieldType.int)) ∈ lw_all := List.mem_filter.mpr ⟨List.mem_of_getElem? (i := 582) (by decide +kernel), by decide +kernel⟩
theorem q_537 : (Cond.methodLink "MilkRoundLaw" (177 : Nat) yL_gradeOf) ∈ lw_all := List.mem_filter.mpr ⟨List.mem_of_getElem? (i := 583) (by decide +kernel), by decide +kernel⟩
theorem q_538 : (Cond.static yL_gradeOf) ∈ lw_all := List.mem_filter.mpr ⟨List.mem_of_getElem? (i := 584) (by decide +kernel), by decide +kernel⟩
theorem q_539 : (Cond.codeWith yL_gradeOf method_18_code (4 : Nat) (Option.some Jvm.ClassFile.FieldType.int) [((0 : Nat), (9 : Nat), (12 : Nat), (21 : Nat))]) ∈ lw_all := List.mem_filter.mpr ⟨List.mem_of_getElem? (i := 585) (by decide +kernel), by decide +kernel⟩
theorem q_540 : (Cond.methodLink "MilkRoundLaw" (68 : Nat) yX2_gradeOf) ∈ lw_all := List.mem_filter.mpr ⟨List.mem_of_getElem? (i := 586) (by decide +kernel), by decide +kernel⟩
theorem q_541 : (Cond.instanceMethod yX2_gradeOf) ∈ lw_all := List.mem_filter.mpr ⟨List.mem_of_getElem? (i := 587) (by decide +kernel), by decide +kernel⟩
theorem q_542 : (Cond.selects "MilkRound" yX2_gradeOf yX2_gradeOf) ∈ lw_all := List.mem_filter.mpr ⟨List.mem_of_getElem? (i := 588) (by decide +kernel), by decide +kernel⟩
theorem q_543 : (Cond.code yX2_gradeOf prog_1_method_20_code (2 : Nat) (Option.some Jvm.ClassFile.FieldType.char)) ∈ lw_all := List.mem_filter.mpr ⟨List.mem_of_getElem? (i := 589) (by decide +kernel), by decide +kernel⟩
theorem q_544 : (Cond.methodLink "MilkRoundLaw" (184 : Nat) yL_stateOf) ∈ lw_all := List.mem_filter.mpr ⟨List.mem_of_getElem? (i := 590) (by decide +kernel), by decide +kernel⟩
theorem q_545 : (Cond.static yL_stateOf) ∈ lw_all := List.mem_filter.mpr ⟨List.mem_of_getElem? (i := 591) (by decide +kernel), by decide +kernel⟩
theorem q_546 : (Cond.codeWith yL_stateOf method_19_code (4 : Nat) (Option.some Jvm.ClassFile.FieldType.int) [((0 : Nat), (9 : Nat), (12 : Nat), (21 : Nat))]) ∈ lw_all := List.mem_filter.mpr ⟨List.mem_of_getElem? (i := 592) (by decide +kernel), by decide +kernel⟩
theorem q_547 : (Cond.methodLink "MilkRoundLaw" (72 : Nat) yX2_stateOf) ∈ lw_all := List.mem_filter.mpr ⟨List.mem_of_getElem? (i := 593) (by decide +kernel), by decide +kernel⟩
theorem q_548 : (Cond.instanceMethod yX2_stateOf) ∈ lw_all := List.mem_filter.mpr ⟨List.mem_of_getElem? (i := 594) (by decide +kernel), by decide +kernel⟩
theorem q_549 : (Cond.selects "MilkRound" yX2_stateOf yX2_stateOf) ∈ lw_all := List.mem_filter.mpr ⟨List.mem_of_getElem? (i := 595) (by decide +kernel), by decide +kernel⟩
theorem q_550 : (Cond.code yX2_stateOf prog_1_method_22_code (2 : Nat) (Option.some Jvm.ClassFile.FieldType.char)) ∈ lw_all := List.mem_filter.mpr ⟨List.mem_of_getElem? (i := 596) (by decide +kernel), by decide +kernel⟩
theorem q_551 : (Cond.methodLink "MilkRound" (183 : Nat) yX2_requireBatch) ∈ lw_all := List.mem_filter.mpr ⟨List.mem_of_getElem? (i := 597) (by decide +kernel), by decide +kernel⟩
theorem q_553 : (Cond.instanceMethod yX2_requireBatch) ∈ lw_all := List.mem_filter.mpr ⟨List.mem_of_getElem? (i := 599) (by decide +kernel), by decide +kernel⟩
theorem q_554 : (Cond.code yX2_requireBatch prog_1_method_36_code (2 : Nat) (Option.none : Option Jvm.ClassFile.FieldType)) ∈ lw_all := List.mem_filter.mpr ⟨List.mem_of_getElem? (i := 600) (by decide +kernel), by decide +kernel⟩
theorem q_558 : (Cond.methodLink "MilkRoundLaw" (187 : Nat) yL_share) ∈ lw_all := List.mem_filter.mpr ⟨List.mem_of_getElem? (i := 604) (by decide +kernel), by decide +kernel⟩
theorem q_559 : (Cond.static yL_share) ∈ lw_all := List.mem_filter.mpr ⟨List.mem_of_getElem? (i := 605) (by decide +kernel), by decide +kernel⟩
theorem q_560 : (Cond.codeWith yL_share method_20_code (5 : Nat) (Option.some Jvm.ClassFile.FieldType.int) [((0 : Nat), (10 : Nat), (13 : Nat), (21 : Nat)), ((0 : Nat), (10 : Nat), (17 : Nat), (53 : Nat))]) ∈ lw_all := List.mem_filter.mpr ⟨List.mem_of_getElem? (i := 606) (by decide +kernel), by decide +kernel⟩
theorem q_561 : (Cond.methodLink "MilkRoundLaw" (75 : Nat) yX2_share) ∈ lw_all := List.mem_filter.mpr ⟨List.mem_of_getElem? (i := 607) (by decide +kernel), by decide +kernel⟩
theorem q_562 : (Cond.instanceMethod yX2_share) ∈ lw_all := List.mem_filter.mpr ⟨List.mem_of_getElem? (i := 608) (by decide +kernel), by decide +kernel⟩
theorem q_563 : (Cond.selects "MilkRound" yX2_share yX2_share) ∈ lw_all := List.mem_filter.mpr ⟨List.mem_of_getElem? (i := 609) (by decide +kernel), by decide +kernel⟩
theorem q_564 : (Cond.code yX2_share prog_1_method_23_code (4 : Nat) (Option.some Jvm.ClassFile.FieldType.int)) ∈ lw_all := List.mem_filter.mpr ⟨List.mem_of_getElem? (i := 610) (by decide +kernel), by decide +kernel⟩
theorem q_567 : (Cond.instanceMethod yX1_shareAt) ∈ lw_all := List.mem_filter.mpr ⟨List.mem_of_getElem? (i := 613) (by decide +kernel), by decide +kernel⟩
theorem q_568 : (Cond.code yX1_shareAt prog_3_method_9_code (5 : Nat) (Option.some Jvm.ClassFile.FieldType.int)) ∈ lw_all := List.mem_filter.mpr ⟨List.mem_of_getElem? (i := 614) (by decide +kernel), by decide +kernel⟩
theorem q_570 : (Cond.methodLink "MilkRoundLaw" (190 : Nat) yL_worth) ∈ lw_all := List.mem_filter.mpr ⟨List.mem_of_getElem? (i := 616) (by decide +kernel), by decide +kernel⟩
theorem q_571 : (Cond.static yL_worth) ∈ lw_all := List.mem_filter.mpr ⟨List.mem_of_getElem? (i := 617) (by decide +kernel), by decide +kernel⟩
theorem q_572 : (Cond.codeWith yL_worth method_21_code (4 : Nat) (Option.some Jvm.ClassFile.FieldType.int) [((0 : Nat), (9 : Nat), (12 : Nat), (21 : Nat)), ((0 : Nat), (9 : Nat), (15 : Nat), (45 : Nat))]) ∈ lw_all := List.mem_filter.mpr ⟨List.mem_of_getElem? (i := 618) (by decide +kernel), by decide +kernel⟩
theorem q_573 : (Cond.methodLink "MilkRoundLaw" (78 : Nat) yX2_worth) ∈ lw_all := List.mem_filter.mpr ⟨List.mem_of_getElem? (i := 619) (by decide +kernel), by decide +kernel⟩
theorem q_574 : (Cond.instanceMethod yX2_worth) ∈ lw_all := List.mem_filter.mpr ⟨List.mem_of_getElem? (i := 620) (by decide +kernel), by decide +kernel⟩
theorem q_575 : (Cond.selects "MilkRound" yX2_worth yX2_worth) ∈ lw_all := List.mem_filter.mpr ⟨List.mem_of_getElem? (i := 621) (by decide +kernel), by decide +kernel⟩
theorem q_576 : (Cond.code yX2_worth prog_1_method_24_code (2 : Nat) (Option.some Jvm.ClassFile.FieldType.int)) ∈ lw_all := List.mem_filter.mpr ⟨List.mem_of_getElem? (i := 622) (by decide +kernel), by decide +kernel⟩
theorem q_577 : (Cond.methodLink "MilkRound" (198 : Nat) yX2_requireGradedBatch) ∈ lw_all := List.mem_filter.mpr ⟨List.mem_of_getElem? (i := 623) (by decide +kernel), by decide +kernel⟩
theorem q_579 : (Cond.instanceMethod yX2_requireGradedBatch) ∈ lw_all := List.mem_filter.mpr ⟨List.mem_of_getElem? (i := 625) (by decide +kernel), by decide +kernel⟩
theorem q_580 : (Cond.code yX2_requireGradedBatch prog_1_method_37_code (2 : Nat) (Option.none : Option Jvm.ClassFile.FieldType)) ∈ lw_all := List.mem_filter.mpr ⟨List.mem_of_getElem? (i := 626) (by decide +kernel), by decide +kernel⟩
theorem q_584 : (Cond.instanceMethod yX1_payOfAll) ∈ lw_all := List.mem_filter.mpr ⟨List.mem_of_getElem? (i := 630) (by decide +kernel), by decide +kernel⟩
theorem q_585 : (Cond.code yX1_payOfAll prog_3_method_17_code (2 : Nat) (Option.some Jvm.ClassFile.FieldType.int)) ∈ lw_all := List.mem_filter.mpr ⟨List.mem_of_getElem? (i := 631) (by decide +kernel), by decide +kernel⟩
theorem q_586 : (Cond.methodLink "MilkRoundLaw" (193 : Nat) yL_loss) ∈ lw_all := List.mem_filter.mpr ⟨List.mem_of_getElem? (i := 632) (by decide +kernel), by decide +kernel⟩
theorem q_587 : (Cond.static yL_loss) ∈ lw_all := List.mem_filter.mpr ⟨List.mem_of_getElem? (i := 633) (by decide +kernel), by decide +kernel⟩
theorem q_588 : (Cond.codeWith yL_loss method_22_code (4 : Nat) (Option.some Jvm.ClassFile.FieldType.int) [((0 : Nat), (9 : Nat), (12 : Nat), (21 : Nat)), ((0 : Nat), (9 : Nat), (15 : Nat), (45 : Nat))]) ∈ lw_all := List.mem_filter.mpr ⟨List.mem_of_getElem? (i := 634) (by decide +kernel), by decide +kernel⟩
theorem q_589 : (Cond.methodLink "MilkRoundLaw" (81 : Nat) yX2_loss) ∈ lw_all := List.mem_filter.mpr ⟨List.mem_of_getElem? (i := 635) (by decide +kernel), by decide +kernel⟩
theorem q_590 : (Cond.instanceMethod yX2_loss) ∈ lw_all := List.mem_filter.mpr ⟨List.mem_of_getElem? (i := 636) (by decide +kernel), by decide +kernel⟩
theorem q_591 : (Cond.selects "MilkRound" yX2_loss yX2_loss) ∈ lw_all := List.mem_filter.mpr ⟨List.mem_of_getElem? (i := 637) (by decide +kernel), by decide +kernel⟩
theorem q_592 : (Cond.code yX2_loss prog_1_method_25_code (2 : Nat) (Option.some Jvm.ClassFile.FieldType.int)) ∈ lw_all := List.mem_filter.mpr ⟨List.mem_of_getElem? (i := 638) (by decide +kernel), by decide +kernel⟩
theorem q_594 : (Cond.methodLink "MilkRoundLaw" (196 : Nat) yL_pay) ∈ lw_all := List.mem_filter.mpr ⟨List.mem_of_getElem? (i := 640) (by decide +kernel), by decide +kernel⟩
theorem q_595 : (Cond.static yL_pay) ∈ lw_all := List.mem_filter.mpr ⟨List.mem_of_getElem? (i := 641) (by decide +kernel), by decide +kernel⟩
theorem q_596 : (Cond.codeWith yL_pay method_23_code (4 : Nat) (Option.some Jvm.ClassFile.FieldType.int) [((0 : Nat), (8 : Nat), (11 : Nat), (21 : Nat))]) ∈ lw_all := List.mem_filter.mpr ⟨List.mem_of_getElem? (i := 642) (by decide +kernel), by decide +kernel⟩
theorem q_597 : (Cond.methodLink "MilkRoundLaw" (84 : Nat) yX2_pay) ∈ lw_all := List.mem_filter.mpr ⟨List.mem_of_getElem? (i := 643) (by decide +kernel), by decide +kernel⟩
theorem q_598 : (Cond.instanceMethod yX2_pay) ∈ lw_all := List.mem_filter.mpr ⟨List.mem_of_getElem? (i := 644) (by decide +kernel), by decide +kernel⟩
theorem q_599 : (Cond.selects "MilkRound" yX2_pay yX2_pay) ∈ lw_all := List.mem_filter.mpr ⟨List.mem_of_getElem? (i := 645) (by decide +kernel), by decide +kernel⟩
theorem q_600 : (Cond.code yX2_pay prog_1_method_26_code (5 : Nat) (Option.some Jvm.ClassFile.FieldType.long)) ∈ lw_all := List.mem_filter.mpr ⟨List.mem_of_getElem? (i := 646) (by decide +kernel), by decide +kernel⟩
theorem q_603 : (Cond.instanceMethod yX1_paidTo) ∈ lw_all := List.mem_filter.mpr ⟨List.mem_of_getElem? (i := 649) (by decide +kernel), by decide +kernel⟩
theorem q_604 : (Cond.code yX1_paidTo prog_3_method_22_code (5 : Nat) (Option.some Jvm.ClassFile.FieldType.int)) ∈ lw_all := List.mem_filter.mpr ⟨List.mem_of_getElem? (i := 650) (by decide +kernel), by decide +kernel⟩
theorem q_605 : (Cond.methodLink "MilkRoundLaw" (199 : Nat) yL_blame) ∈ lw_all := List.mem_filter.mpr ⟨List.mem_of_getElem? (i := 651) (by decide +kernel), by decide +kernel⟩
theorem q_606 : (Cond.static yL_blame) ∈ lw_all := List.mem_filter.mpr ⟨List.mem_of_getElem? (i := 652) (by decide +kernel), by decide +kernel⟩
theorem q_607 : (Cond.codeWith yL_blame method_24_code (4 : Nat) (Option.some Jvm.ClassFile.FieldType.int) [((0 : Nat), (8 : Nat), (11 : Nat), (21 : Nat))]) ∈ lw_all := List.mem_filter.mpr ⟨List.mem_of_getElem? (i := 653) (by decide +kernel), by decide +kernel⟩
theorem q_608 : (Cond.methodLink "MilkRoundLaw" (88 : Nat) yX2_blame) ∈ lw_all := List.mem_filter.mpr ⟨List.mem_of_getElem? (i := 654) (by decide +kernel), by decide +kernel⟩
theorem q_609 : (Cond.instanceMethod yX2_blame) ∈ lw_all := List.mem_filter.mpr ⟨List.mem_of_getElem? (i := 655) (by decide +kernel), by decide +kernel⟩
theorem q_610 : (Cond.selects "MilkRound" yX2_blame yX2_blame) ∈ lw_all := List.mem_filter.mpr ⟨List.mem_of_getElem? (i := 656) (by decide +kernel), by decide +kernel⟩
theorem q_611 : (Cond.code yX2_blame prog_1_method_27_code (5 : Nat) (Option.some Jvm.ClassFile.FieldType.long)) ∈ lw_all := List.mem_filter.mpr ⟨List.mem_of_getElem? (i := 657) (by decide +kernel), by decide +kernel⟩
theorem q_614 : (Cond.instanceMethod yX1_blamedOn) ∈ lw_all := List.mem_filter.mpr ⟨List.mem_of_getElem? (i := 660) (by decide +kernel), by decide +kernel⟩
theorem q_615 : (Cond.code yX1_blamedOn prog_3_method_23_code (5 : Nat) (Option.some Jvm.ClassFile.FieldType.int)) ∈ lw_all := List.mem_filter.mpr ⟨List.mem_of_getElem? (i := 661) (by decide +kernel), by decide +kernel⟩
theorem q_616 : (Cond.methodLink "MilkRoundLaw" (202 : Nat) yL_balanceBySamples) ∈ lw_all := List.mem_filter.mpr ⟨List.mem_of_getElem? (i := 662) (by decide +kernel), by decide +kernel⟩
theorem q_617 : (Cond.static yL_balanceBySamples) ∈ lw_all := List.mem_filter.mpr ⟨List.mem_of_getElem? (i := 663) (by decide +kernel), by decide +kernel⟩
theorem q_618 : (Cond.codeWith yL_balanceBySamples method_25_code (4 : Nat) (Option.some Jvm.ClassFile.FieldType.int) [((0 : Nat), (8 : Nat), (11 : Nat), (21 : Nat))]) ∈ lw_all := List.mem_filter.mpr ⟨List.mem_of_getElem? (i := 664) (by decide +kernel), by decide +kernel⟩
theorem q_619 : (Cond.methodLink "MilkRoundLaw" (91 : Nat) yX2_balanceBySamples) ∈ lw_all := List.mem_filter.mpr ⟨List.mem_of_getElem? (i := 665) (by decide +kernel), by decide +kernel⟩
theorem q_620 : (Cond.instanceMethod yX2_balanceBySamples) ∈ lw_all := List.mem_filter.mpr ⟨List.mem_of_getElem? (i := 666) (by decide +kernel), by decide +kernel⟩
theorem q_621 : (Cond.selects "MilkRound" yX2_balanceBySamples yX2_balanceBySamples) ∈ lw_all := List.mem_filter.mpr ⟨List.mem_of_getElem? (i := 667) (by decide +kernel), by decide +kernel⟩
theorem q_622 : (Cond.code yX2_balanceBySamples prog_1_method_28_code (2 : Nat) (Option.some Jvm.ClassFile.FieldType.long)) ∈ lw_all := List.mem_filter.mpr ⟨List.mem_of_getElem? (i := 668) (by decide +kernel), by decide +kernel⟩
theorem q_625 : (Cond.instanceMethod yX1_balanceOf) ∈ lw_all := List.mem_filter.mpr ⟨List.mem_of_getElem? (i := 671) (by decide +kernel), by decide +kernel⟩
theorem q_626 : (Cond.code yX1_balanceOf prog_3_method_24_code (5 : Nat) (Option.some Jvm.ClassFile.FieldType.long)) ∈ lw_all := List.mem_filter.mpr ⟨List.mem_of_getElem? (i := 672) (by decide +kernel), by decide +kernel⟩
theorem q_627 : (Cond.methodLink "MilkRoundLaw" (205 : Nat) yL_wayOf) ∈ lw_all := List.mem_filter.mpr ⟨List.mem_of_getElem? (i := 673) (by decide +kernel), by decide +kernel⟩
theorem q_628 : (Cond.static yL_wayOf) ∈ lw_all := List.mem_filter.mpr ⟨List.mem_of_getElem? (i := 674) (by decide +kernel), by decide +kernel⟩
theorem q_629 : (Cond.codeWith yL_wayOf method_26_code (4 : Nat) (Option.some Jvm.ClassFile.FieldType.int) [((0 : Nat), (9 : Nat), (12 : Nat), (21 : Nat))]) ∈ lw_all := List.mem_filter.mpr ⟨List.mem_of_getElem? (i := 675) (by decide +kernel), by decide +kernel⟩
theorem q_630 : (Cond.methodLink "MilkRoundLaw" (94 : Nat) yX2_wayOf) ∈ lw_all := List.mem_filter.mpr ⟨List.mem_of_getElem? (i := 676) (by decide +kernel), by decide +kernel⟩
theorem q_631 : (Cond.instanceMethod yX2_wayOf) ∈ lw_all := List.mem_filter.mpr ⟨List.mem_of_getElem? (i := 677) (by decide +kernel), by decide +kernel⟩
theorem q_632 : (Cond.selects "MilkRound" yX2_wayOf yX2_wayOf) ∈ lw_all := List.mem_filter.mpr ⟨List.mem_of_getElem? (i := 678) (by decide +kernel), by decide +kernel⟩
theorem q_633 : (Cond.code yX2_wayOf prog_1_method_29_code (2 : Nat) (Option.some Jvm.ClassFile.FieldType.char)) ∈ lw_all := List.mem_filter.mpr ⟨List.mem_of_getElem? (i := 679) (by decide +kernel), by decide +kernel⟩
theorem q_634 : (Cond.methodLink "MilkRoundLaw" (208 : Nat) yL_spoiltShare) ∈ lw_all := List.mem_filter.mpr ⟨List.mem_of_getElem? (i := 680) (by decide +kernel), by decide +kernel⟩
theorem q_635 : (Cond.static yL_spoiltShare) ∈ lw_all := List.mem_filter.mpr ⟨List.mem_of_getElem? (i := 681) (by decide +kernel), by decide +kernel⟩
theorem q_636 : (Cond.codeWith yL_spoiltShare method_27_code (3 : Nat) (Option.some Jvm.ClassFile.FieldType.int) [((0 : Nat), (8 : Nat), (11 : Nat), (101 : Nat))]) ∈ lw_all := List.mem_filter.mpr ⟨List.mem_of_getElem? (i := 682) (by decide +kernel), by decide +kernel⟩
theorem q_637 : (Cond.classLink "MilkRoundLaw" (101 : Nat) "java/lang/ArithmeticException") ∈ lw_all := List.mem_filter.mpr ⟨List.mem_of_getElem? (i := 683) (by decide +kernel), by decide +kernel⟩
theorem q_638 : (Cond.instantiable "java/lang/ArithmeticException" (6 : Nat)) ∈ lw_all := List.mem_filter.mpr ⟨List.mem_of_getElem? (i := 684) (by decide +kernel), by decide +kernel⟩
theorem q_639 : (Cond.instanceMethod ⟨"java/lang/ArithmeticException", "<init>", "(Ljava/lang/String;)V"⟩) ∈ lw_all := List.mem_filter.mpr ⟨List.mem_of_getElem? (i := 685) (by decide +kernel), by decide +kernel⟩
theorem q_640 : (Cond.code ⟨"java/lang/ArithmeticException", "<init>", "(Ljava/lang/String;)V"⟩ prog_7_method_2_code (2 : Nat) (Option.none : Option Jvm.ClassFile.FieldType)) ∈ lw_all := List.mem_filter.mpr ⟨List.mem_of_getElem? (i := 686) (by decide +kernel), by decide +kernel⟩
theorem q_641 : (Cond.methodLink "java/lang/ArithmeticException" (7 : Nat) ⟨"java/lang/RuntimeException", "<init>", "(Ljava/lang/String;)V"⟩) ∈ lw_all := List.mem_filter.mpr ⟨List.mem_of_getElem? (i := 687) (by decide +kernel), by decide +kernel⟩
theorem q_642 : (Cond.lays "java/lang/ArithmeticException" "java/lang/Throwable" "backtrace" "Ljava/lang/Object;") ∈ lw_all := List.mem_filter.mpr ⟨List.mem_of_getElem? (i := 688) (by decide +kernel), by decide +kernel⟩
theorem q_643 : (Cond.lays "java/lang/ArithmeticException" "java/lang/Throwable" "detailMessage" "Ljava/lang/String;") ∈ lw_all := List.mem_filter.mpr ⟨List.mem_of_getElem? (i := 689) (by decide +kernel), by decide +kernel⟩
theorem q_644 : (Cond.lays "java/lang/ArithmeticException" "java/lang/Throwable" "cause" "Ljava/lang/Throwable;") ∈ lw_all := List.mem_filter.mpr ⟨List.mem_of_getElem? (i := 690) (by decide +kernel), by decide +kernel⟩
theorem q_645 : (Cond.lays "java/lang/ArithmeticException" "java/lang/Throwable" "stackTrace" "[Ljava/lang/StackTraceElement;") ∈ lw_all := List.mem_filter.mpr ⟨List.mem_of_getElem? (i := 691) (by decide +kernel), by decide +kernel⟩
theorem q_646 : (Cond.lays "java/lang/ArithmeticException" "java/lang/Throwable" "depth" "I") ∈ lw_all := List.mem_filter.mpr ⟨List.mem_of_getElem? (i := 692) (by decide +kernel), by decide +kernel⟩
theorem q_647 : (Cond.lays "java/lang/ArithmeticException" "java/lang/Throwable" "suppressedExceptions" "Ljava/util/List;") ∈ lw_all := List.mem_filter.mpr ⟨List.mem_of_getElem? (i := 693) (by decide +kernel), by decide +kernel⟩
theorem q_650 : (Cond.selects "java/lang/ArithmeticException" ⟨"java/lang/Throwable", "fillInStackTrace", "(I)Ljava/lang/Throwable;"⟩ ⟨"java/lang/Throwable", "fillInStackTrace", "(I)Ljava/lang/Throwable;"⟩) ∈ lw_all := List.mem_filter.mpr ⟨List.mem_of_getElem? (i := 696) (by decide +kernel), by decide +kernel⟩
theorem q_651 : (Cond.methodLink "MilkRoundLaw" (97 : Nat) yX2_spoiltShare) ∈ lw_all := List.mem_filter.mpr ⟨List.mem_of_getElem? (i := 697) (by decide +kernel), by decide +kernel⟩
theorem q_652 : (Cond.instanceMethod yX2_spoiltShare) ∈ lw_all := List.mem_filter.mpr ⟨List.mem_of_getElem? (i := 698) (by decide +kernel), by decide +kernel⟩
theorem q_653 : (Cond.selects "MilkRound" yX2_spoiltShare yX2_spoiltShare) ∈ lw_all := List.mem_filter.mpr ⟨List.mem_of_getElem? (i := 699) (by decide +kernel), by decide +kernel⟩
theorem q_654 : (Cond.code yX2_spoiltShare prog_1_method_30_code (4 : Nat) (Option.some Jvm.ClassFile.FieldType.float)) ∈ lw_all := List.mem_filter.mpr ⟨List.mem_of_getElem? (i := 700) (by decide +kernel), by decide +kernel⟩
theorem q_657 : (Cond.instanceMethod yX1_allLitres) ∈ lw_all := List.mem_filter.mpr ⟨List.mem_of_getElem? (i := 703) (by decide +kernel), by decide +kernel⟩
theorem q_658 : (Cond.code yX1_allLitres prog_3_method_7_code (3 : Nat) (Option.some Jvm.ClassFile.FieldType.int)) ∈ lw_all := List.mem_filter.mpr ⟨List.mem_of_getElem? (i := 704) (by decide +kernel), by decide +kernel⟩
theorem q_659 : (Cond.classLink "MilkRound" (220 : Nat) "java/lang/ArithmeticException") ∈ lw_all := List.mem_filter.mpr ⟨List.mem_of_getElem? (i := 705) (by decide +kernel), by decide +kernel⟩
theorem q_661 : (Cond.methodLink "MilkRound" (224 : Nat) ⟨"java/lang/ArithmeticException", "<init>", "(Ljava/lang/String;)V"⟩) ∈ lw_all := List.mem_filter.mpr ⟨List.mem_of_getElem? (i := 707) (by decide +kernel), by decide +kernel⟩
theorem q_662 : (Cond.methodLink "MilkRoundLaw" (212 : Nat) yL_meanPay) ∈ lw_all := List.mem_filter.mpr ⟨List.mem_of_getElem? (i := 708) (by decide +kernel), by decide +kernel⟩
theorem q_663 : (Cond.static yL_meanPay) ∈ lw_all := List.mem_filter.mpr ⟨List.mem_of_getElem? (i := 709) (by decide +kernel), by decide +kernel⟩
theorem q_664 : (Cond.codeWith yL_meanPay method_28_code (3 : Nat) (Option.some Jvm.ClassFile.FieldType.int) [((0 : Nat), (7 : Nat), (10 : Nat), (101 : Nat))]) ∈ lw_all := List.mem_filter.mpr ⟨List.mem_of_getElem? (i := 710) (by decide +kernel), by decide +kernel⟩
theorem q_665 : (Cond.methodLink "MilkRoundLaw" (103 : Nat) yX2_meanPay) ∈ lw_all := List.mem_filter.mpr ⟨List.mem_of_getElem? (i := 711) (by decide +kernel), by decide +kernel⟩
theorem q_666 : (Cond.instanceMethod yX2_meanPay) ∈ lw_all := List.mem_filter.mpr ⟨List.mem_of_getElem? (i := 712) (by decide +kernel), by decide +kernel⟩
theorem q_667 : (Cond.selects "MilkRound" yX2_meanPay yX2_meanPay) ∈ lw_all := List.mem_filter.mpr ⟨List.mem_of_getElem? (i := 713) (by decide +kernel), by decide +kernel⟩
theorem q_668 : (Cond.code yX2_meanPay prog_1_method_31_code (6 : Nat) (Option.some Jvm.ClassFile.FieldType.double)) ∈ lw_all := List.mem_filter.mpr ⟨List.mem_of_getElem? (i := 714) (by decide +kernel), by decide +kernel⟩
theorem q_670 : (Cond.classLink "MilkRoundLaw" (108 : Nat) "MilkRoundModel") ∈ lw_all := List.mem_filter.mpr ⟨List.mem_of_getElem? (i := 716) (by decide +kernel), by decide +kernel⟩
theorem q_671 : (Cond.instantiable "MilkRoundModel" (21 : Nat)) ∈ lw_all := List.mem_filter.mpr ⟨List.mem_of_getElem? (i := 717) (by decide +kernel), by decide +kernel⟩
theorem q_672 : (Cond.methodLink "MilkRoundLaw" (110 : Nat) yX3_init) ∈ lw_all := List.mem_filter.mpr ⟨List.mem_of_getElem? (i := 718) (by decide +kernel), by decide +kernel⟩
theorem q_673 : (Cond.instanceMethod yX3_init) ∈ lw_all := List.mem_filter.mpr ⟨List.mem_of_getElem? (i := 719) (by decide +kernel), by decide +kernel⟩
theorem q_674 : (Cond.code yX3_init prog_5_method_1_code (1 : Nat) (Option.none : Option Jvm.ClassFile.FieldType)) ∈ lw_all := List.mem_filter.mpr ⟨List.mem_of_getElem? (i := 720) (by decide +kernel), by decide +kernel⟩
theorem q_675 : (Cond.methodLink "MilkRoundModel" (1 : Nat) ⟨"java/lang/Object", "<init>", "()V"⟩) ∈ lw_all := List.mem_filter.mpr ⟨List.mem_of_getElem? (i := 721) (by decide +kernel), by decide +kernel⟩
theorem q_676 : (Cond.fieldLink "MilkRoundModel" (77 : Nat) "MilkRoundModel" "day" "I") ∈ lw_all := List.mem_filter.mpr ⟨List.mem_of_getElem? (i := 722) (by decide +kernel), by decide +kernel⟩
theorem q_677 : (Cond.fieldLink "MilkRoundModel" (7 : Nat) "MilkRoundModel" "rooms" "[I") ∈ lw_all := List.mem_filter.mpr ⟨List.mem_of_getElem? (i := 723) (by decide +kernel), by decide +kernel⟩
theorem q_678 : (Cond.fieldLink "MilkRoundModel" (13 : Nat) "MilkRoundModel" "tanks" "[I") ∈ lw_all := List.mem_filter.mpr ⟨List.mem_of_getElem? (i := 724) (by decide +kernel), by decide +kernel⟩
theorem q_679 : (Cond.fieldLink "MilkRoundModel" (16 : Nat) "MilkRoundModel" "bests" "[I") ∈ lw_all := List.mem_filter.mpr ⟨List.mem_of_getElem? (i := 725) (by decide +kernel), by decide +kernel⟩
theorem q_680 : (Cond.fieldLink "MilkRoundModel" (19 : Nat) "MilkRoundModel" "cows" "[I") ∈ lw_all := List.mem_filter.mpr ⟨List.mem_of_getElem? (i := 726) (by decide +kernel), by decide +kernel⟩
theorem q_681 : (Cond.fieldLink "MilkRoundModel" (60 : Nat) "MilkRoundModel" "farms" "I") ∈ lw_all := List.mem_filter.mpr ⟨List.mem_of_getElem? (i := 727) (by decide +kernel), by decide +kernel⟩
theorem q_682 : (Cond.fieldLink "MilkRoundModel" (22 : Nat) "MilkRoundModel" "vatRooms" "[I") ∈ lw_all := List.mem_filter.mpr ⟨List.mem_of_getElem? (i := 728) (by decide +kernel), by decide +kernel⟩
theorem q_683 : (Cond.fieldLink "MilkRoundModel" (25 : Nat) "MilkRoundModel" "inVats" "[I") ∈ lw_all := List.mem_filter.mpr ⟨List.mem_of_getElem? (i := 729) (by decide +kernel), by decide +kernel⟩
theorem q_684 : (Cond.fieldLink "MilkRoundModel" (28 : Nat) "MilkRoundModel" "vatShares" "[I") ∈ lw_all := List.mem_filter.mpr ⟨List.mem_of_getElem? (i := 730) (by decide +kernel), by decide +kernel⟩
theorem q_685 : (Cond.fieldLink "MilkRoundModel" (84 : Nat) "MilkRoundModel" "vats" "I") ∈ lw_all := List.mem_filter.mpr ⟨List.mem_of_getElem? (i := 731) (by decide +kernel), by decide +kernel⟩
theorem q_686 : (Cond.fieldLink "MilkRoundModel" (87 : Nat) "MilkRoundModel" "isUnderWay" "Z") ∈ lw_all := List.mem_filter.mpr ⟨List.mem_of_getElem? (i := 732) (by decide +kernel), by decide +kernel⟩
theorem q_687 : (Cond.fieldLink "MilkRoundModel" (31 : Nat) "MilkRoundModel" "isVisited" "[Z") ∈ lw_all := List.mem_filter.mpr ⟨List.mem_of_getElem? (i := 733) (by decide +kernel), by decide +kernel⟩
theorem q_688 : (Cond.fieldLink "MilkRoundModel" (91 : Nat) "MilkRoundModel" "rounds" "I") ∈ lw_all := List.mem_filter.mpr ⟨List.mem_of_getElem? (i := 734) (by decide +kernel), by decide +kernel⟩
theorem q_689 : (Cond.fieldLink "MilkRoundModel" (97 : Nat) "MilkRoundModel" "inTanker" "I") ∈ lw_all := List.mem_filter.mpr ⟨List.mem_of_getElem? (i := 735) (by decide +kernel), by decide +kernel⟩
theorem q_690 : (Cond.fieldLink "MilkRoundModel" (35 : Nat) "MilkRoundModel" "farmOf" "[I") ∈ lw_all := List.mem_filter.mpr ⟨List.mem_of_getElem? (i := 736) (by decide +kernel), by decide +kernel⟩
theorem q_691 : (Cond.fieldLink "MilkRoundModel" (38 : Nat) "MilkRoundModel" "litres" "[I") ∈ lw_all := List.mem_filter.mpr ⟨List.mem_of_getElem? (i := 737) (by decide +kernel), by decide +kernel⟩
theorem q_692 : (Cond.fieldLink "MilkRoundModel" (41 : Nat) "MilkRoundModel" "grades" "[C") ∈ lw_all := List.mem_filter.mpr ⟨List.mem_of_getElem? (i := 738) (by decide +kernel), by decide +kernel⟩
theorem q_693 : (Cond.fieldLink "MilkRoundModel" (45 : Nat) "MilkRoundModel" "ways" "[I") ∈ lw_all := List.mem_filter.mpr ⟨List.mem_of_getElem? (i := 739) (by decide +kernel), by decide +kernel⟩
theorem q_694 : (Cond.fieldLink "MilkRoundModel" (94 : Nat) "MilkRoundModel" "samples" "I") ∈ lw_all := List.mem_filter.mpr ⟨List.mem_of_getElem? (i := 740) (by decide +kernel), by decide +kernel⟩
theorem q_695 : (Cond.fieldLink "MilkRoundModel" (107 : Nat) "MilkRoundModel" "batches" "I") ∈ lw_all := List.mem_filter.mpr ⟨List.mem_of_getElem? (i := 741) (by decide +kernel), by decide +kernel⟩
theorem q_696 : (Cond.fieldLink "MilkRoundModel" (48 : Nat) "MilkRoundModel" "thrown" "I") ∈ lw_all := List.mem_filter.mpr ⟨List.mem_of_getElem? (i := 742) (by decide +kernel), by decide +kernel⟩
theorem q_697 : (Cond.lays "MilkRoundModel" "MilkRoundModel" "day" "I") ∈ lw_all := List.mem_filter.mpr ⟨List.mem_of_getElem? (i := 743) (by decide +kernel), by decide +kernel⟩
theorem q_699 : (Cond.laysFinal "MilkRoundModel" "MilkRoundModel" "rooms" "[I") ∈ lw_all := List.mem_filter.mpr ⟨List.mem_of_getElem? (i := 745) (by decide +kernel), by decide +kernel⟩
theorem q_701 : (Cond.laysFinal "MilkRoundModel" "MilkRoundModel" "tanks" "[I") ∈ lw_all := List.mem_filter.mpr ⟨List.mem_of_getElem? (i := 747) (by decide +kernel), by decide +kernel⟩
theorem q_703 : (Cond.laysFinal "MilkRoundModel" "MilkRoundModel" "bests" "[I") ∈ lw_all := List.mem_filter.mpr ⟨List.mem_of_getElem? (i := 749) (by decide +kernel), by decide +kernel⟩
theorem q_705 : (Cond.laysFinal "MilkRoundModel" "MilkRoundModel" "cows" "[I") ∈ lw_all := List.mem_filter.mpr ⟨List.mem_of_getElem? (i := 751) (by decide +kernel), by decide +kernel⟩
theorem q_707 : (Cond.lays "MilkRoundModel" "MilkRoundModel" "farms" "I") ∈ lw_all := List.mem_filter.mpr ⟨List.mem_of_getElem? (i := 753) (by decide +kernel), by decide +kernel⟩
theorem q_709 : (Cond.laysFinal "MilkRoundModel" "MilkRoundModel" "vatRooms" "[I") ∈ lw_all := List.mem_filter.mpr ⟨List.mem_of_getElem? (i := 755) (by decide +kernel), by decide +kernel⟩
theorem q_711 : (Cond.laysFinal "MilkRoundModel" "MilkRoundModel" "inVats" "[I") ∈ lw_all := List.mem_filter.mpr ⟨List.mem_of_getElem? (i := 757) (by decide +kernel), by decide +kernel⟩
theorem q_713 : (Cond.laysFinal "MilkRoundModel" "MilkRoundModel" "vatShares" "[I") ∈ lw_all := List.mem_filter.mpr ⟨List.mem_of_getElem? (i := 759) (by decide +kernel), by decide +kernel⟩
theorem q_715 : (Cond.lays "MilkRoundModel" "MilkRoundModel" "vats" "I") ∈ lw_all := List.mem_filter.mpr ⟨List.mem_of_getElem? (i := 761) (by decide +kernel), by decide +kernel⟩
theorem q_717 : (Cond.lays "MilkRoundModel" "MilkRoundModel" "isUnderWay" "Z") ∈ lw_all := List.mem_filter.mpr ⟨List.mem_of_getElem? (i := 763) (by decide +kernel), by decide +kernel⟩
theorem q_719 : (Cond.laysFinal "MilkRoundModel" "MilkRoundModel" "isVisited" "[Z") ∈ lw_all := List.mem_filter.mpr ⟨List.mem_of_getElem? (i := 765) (by decide +kernel), by decide +kernel⟩
theorem q_721 : (Cond.lays "MilkRoundModel" "MilkRoundModel" "rounds" "I") ∈ lw_all := List.mem_filter.mpr ⟨List.mem_of_getElem? (i := 767) (by decide +kernel), by decide +kernel⟩
theorem q_723 : (Cond.lays "MilkRoundModel" "MilkRoundModel" "inTanker" "I") ∈ lw_all := List.mem_filter.mpr ⟨List.mem_of_getElem? (i := 769) (by decide +kernel), by decide +kernel⟩
theorem q_725 : (Cond.laysFinal "MilkRoundModel" "MilkRoundModel" "farmOf" "[I") ∈ lw_all := List.mem_filter.mpr ⟨List.mem_of_getElem? (i := 771) (by decide +kernel), by decide +kernel⟩
theorem q_727 : (Cond.laysFinal "MilkRoundModel" "MilkRoundModel" "litres" "[I") ∈ lw_all := List.mem_filter.mpr ⟨List.mem_of_getElem? (i := 773) (by decide +kernel), by decide +kernel⟩
theorem q_729 : (Cond.laysFinal "MilkRoundModel" "MilkRoundModel" "grades" "[C") ∈ lw_all := List.mem_filter.mpr ⟨List.mem_of_getElem? (i := 775) (by decide +kernel), by decide +kernel⟩
theorem q_731 : (Cond.laysFinal "MilkRoundModel" "MilkRoundModel" "ways" "[I") ∈ lw_all := List.mem_filter.mpr ⟨List.mem_of_getElem? (i := 777) (by decide +kernel), by decide +kernel⟩
theorem q_733 : (Cond.lays "MilkRoundModel" "MilkRoundModel" "samples" "I") ∈ lw_all := List.mem_filter.mpr ⟨List.mem_of_getElem? (i := 779) (by decide +kernel), by decide +kernel⟩
theorem q_735 : (Cond.lays "MilkRoundModel" "MilkRoundModel" "batches" "I") ∈ lw_all := List.mem_filter.mpr ⟨List.mem_of_getElem? (i := 781) (by decide +kernel), by decide +kernel⟩
theorem q_737 : (Cond.lays "MilkRoundModel" "MilkRoundModel" "thrown" "I") ∈ lw_all := List.mem_filter.mpr ⟨List.mem_of_getElem? (i := 783) (by decide +kernel), by decide +kernel⟩
theorem q_740 : (Cond.methodLink "MilkRoundLaw" (117 : Nat) yX3_thrown) ∈ lw_all := List.mem_filter.mpr ⟨List.mem_of_getElem? (i := 786) (by decide +kernel), by decide +kernel⟩
theorem q_741 : (Cond.instanceMethod yX3_thrown) ∈ lw_all := List.mem_filter.mpr ⟨List.mem_of_getElem? (i := 787) (by decide +kernel), by decide +kernel⟩
theorem q_742 : (Cond.selects "MilkRoundModel" yX3_thrown yX3_thrown) ∈ lw_all := List.mem_filter.mpr ⟨List.mem_of_getElem? (i := 788) (by decide +kernel), by decide +kernel⟩
theorem q_743 : (Cond.code yX3_thrown prog_5_method_2_code (1 : Nat) (Option.some Jvm.ClassFile.FieldType.int)) ∈ lw_all := List.mem_filter.mpr ⟨List.mem_of_getElem? (i := 789) (by decide +kernel), by decide +kernel⟩
theorem q_744 : (Cond.methodLink "MilkRoundLaw" (116 : Nat) yX3_addFarm) ∈ lw_all := List.mem_filter.mpr ⟨List.mem_of_getElem? (i := 790) (by decide +kernel), by decide +kernel⟩
theorem q_745 : (Cond.instanceMethod yX3_addFarm) ∈ lw_all := List.mem_filter.mpr ⟨List.mem_of_getElem? (i := 791) (by decide +kernel), by decide +kernel⟩
theorem q_746 : (Cond.selects "MilkRoundModel" yX3_addFarm yX3_addFarm) ∈ lw_all := List.mem_filter.mpr ⟨List.mem_of_getElem? (i := 792) (by decide +kernel), by decide +kernel⟩
theorem q_747 : (Cond.code yX3_addFarm prog_5_method_4_code (2 : Nat) (Option.some Jvm.ClassFile.FieldType.int)) ∈ lw_all := List.mem_filter.mpr ⟨List.mem_of_getElem? (i := 793) (by decide +kernel), by decide +kernel⟩
theorem q_748 : (Cond.constantLong "MilkRoundModel" (52 : Nat) (10 : Int64)) ∈ lw_all := List.mem_filter.mpr ⟨List.mem_of_getElem? (i := 794) (by decide +kernel), by decide +kernel⟩
theorem q_749 : (Cond.constantLong "MilkRoundModel" (54 : Nat) (200 : Int64)) ∈ lw_all := List.mem_filter.mpr ⟨List.mem_of_getElem? (i := 795) (by decide +kernel), by decide +kernel⟩
theorem q_750 : (Cond.methodLink "MilkRoundModel" (56 : Nat) yX3_in) ∈ lw_all := List.mem_filter.mpr ⟨List.mem_of_getElem? (i := 796) (by decide +kernel), by decide +kernel⟩
theorem q_751 : (Cond.static yX3_in) ∈ lw_all := List.mem_filter.mpr ⟨List.mem_of_getElem? (i := 797) (by decide +kernel), by decide +kernel⟩
theorem q_752 : (Cond.code yX3_in prog_5_method_3_code (6 : Nat) (Option.some Jvm.ClassFile.FieldType.boolean)) ∈ lw_all := List.mem_filter.mpr ⟨List.mem_of_getElem? (i := 798) (by decide +kernel), by decide +kernel⟩
theorem q_753 : (Cond.methodLink "MilkRoundLaw" (123 : Nat) yX3_addCow) ∈ lw_all := List.mem_filter.mpr ⟨List.mem_of_getElem? (i := 799) (by decide +kernel), by decide +kernel⟩
theorem q_754 : (Cond.instanceMethod yX3_addCow) ∈ lw_all := List.mem_filter.mpr ⟨List.mem_of_getElem? (i := 800) (by decide +kernel), by decide +kernel⟩
theorem q_755 : (Cond.selects "MilkRoundModel" yX3_addCow yX3_addCow) ∈ lw_all := List.mem_filter.mpr ⟨List.mem_of_getElem? (i := 801) (by decide +kernel), by decide +kernel⟩
theorem q_756 : (Cond.code yX3_addCow prog_5_method_6_code (3 : Nat) (Option.some Jvm.ClassFile.FieldType.int)) ∈ lw_all := List.mem_filter.mpr ⟨List.mem_of_getElem? (i := 802) (by decide +kernel), by decide +kernel⟩
theorem q_757 : (Cond.methodLink "MilkRoundModel" (63 : Nat) yX3_isFarm) ∈ lw_all := List.mem_filter.mpr ⟨List.mem_of_getElem? (i := 803) (by decide +kernel), by decide +kernel⟩
theorem q_759 : (Cond.instanceMethod yX3_isFarm) ∈ lw_all := List.mem_filter.mpr ⟨List.mem_of_getElem? (i := 805) (by decide +kernel), by decide +kernel⟩
theorem q_760 : (Cond.code yX3_isFarm prog_5_method_5_code (2 : Nat) (Option.some Jvm.ClassFile.FieldType.boolean)) ∈ lw_all := List.mem_filter.mpr ⟨List.mem_of_getElem? (i := 806) (by decide +kernel), by decide +kernel⟩
theorem q_761 : (Cond.constantLong "MilkRoundModel" (67 : Nat) (5 : Int64)) ∈ lw_all := List.mem_filter.mpr ⟨List.mem_of_getElem? (i := 807) (by decide +kernel), by decide +kernel⟩
theorem q_762 : (Cond.constantLong "MilkRoundModel" (69 : Nat) (30 : Int64)) ∈ lw_all := List.mem_filter.mpr ⟨List.mem_of_getElem? (i := 808) (by decide +kernel), by decide +kernel⟩
theorem q_763 : (Cond.methodLink "MilkRoundLaw" (126 : Nat) yX3_milkOf) ∈ lw_all := List.mem_filter.mpr ⟨List.mem_of_getElem? (i := 809) (by decide +kernel), by decide +kernel⟩
theorem q_764 : (Cond.instanceMethod yX3_milkOf) ∈ lw_all := List.mem_filter.mpr ⟨List.mem_of_getElem? (i := 810) (by decide +kernel), by decide +kernel⟩
theorem q_765 : (Cond.selects "MilkRoundModel" yX3_milkOf yX3_milkOf) ∈ lw_all := List.mem_filter.mpr ⟨List.mem_of_getElem? (i := 811) (by decide +kernel), by decide +kernel⟩
theorem q_766 : (Cond.code yX3_milkOf prog_5_method_8_code (5 : Nat) (Option.some Jvm.ClassFile.FieldType.int)) ∈ lw_all := List.mem_filter.mpr ⟨List.mem_of_getElem? (i := 812) (by decide +kernel), by decide +kernel⟩
theorem q_767 : (Cond.constantLong "MilkRoundModel" (71 : Nat) (999 : Int64)) ∈ lw_all := List.mem_filter.mpr ⟨List.mem_of_getElem? (i := 813) (by decide +kernel), by decide +kernel⟩
theorem q_768 : (Cond.methodLink "MilkRoundModel" (73 : Nat) yX3_gives) ∈ lw_all := List.mem_filter.mpr ⟨List.mem_of_getElem? (i := 814) (by decide +kernel), by decide +kernel⟩
theorem q_769 : (Cond.static yX3_gives) ∈ lw_all := List.mem_filter.mpr ⟨List.mem_of_getElem? (i := 815) (by decide +kernel), by decide +kernel⟩
theorem q_770 : (Cond.code yX3_gives prog_5_method_7_code (4 : Nat) (Option.some Jvm.ClassFile.FieldType.int)) ∈ lw_all := List.mem_filter.mpr ⟨List.mem_of_getElem? (i := 816) (by decide +kernel), by decide +kernel⟩
theorem q_771 : (Cond.methodLink "MilkRoundLaw" (129 : Nat) yX3_inTank) ∈ lw_all := List.mem_filter.mpr ⟨List.mem_of_getElem? (i := 817) (by decide +kernel), by decide +kernel⟩
theorem q_772 : (Cond.instanceMethod yX3_inTank) ∈ lw_all := List.mem_filter.mpr ⟨List.mem_of_getElem? (i := 818) (by decide +kernel), by decide +kernel⟩
theorem q_773 : (Cond.selects "MilkRoundModel" yX3_inTank yX3_inTank) ∈ lw_all := List.mem_filter.mpr ⟨List.mem_of_getElem? (i := 819) (by decide +kernel), by decide +kernel⟩
theorem q_774 : (Cond.code yX3_inTank prog_5_method_9_code (2 : Nat) (Option.some Jvm.ClassFile.FieldType.int)) ∈ lw_all := List.mem_filter.mpr ⟨List.mem_of_getElem? (i := 820) (by decide +kernel), by decide +kernel⟩
theorem q_775 : (Cond.methodLink "MilkRoundLaw" (132 : Nat) yX3_pass) ∈ lw_all := List.mem_filter.mpr ⟨List.mem_of_getElem? (i := 821) (by decide +kernel), by decide +kernel⟩
theorem q_776 : (Cond.instanceMethod yX3_pass) ∈ lw_all := List.mem_filter.mpr ⟨List.mem_of_getElem? (i := 822) (by decide +kernel), by decide +kernel⟩
theorem q_777 : (Cond.selects "MilkRoundModel" yX3_pass yX3_pass) ∈ lw_all := List.mem_filter.mpr ⟨List.mem_of_getElem? (i := 823) (by decide +kernel), by decide +kernel⟩
theorem q_778 : (Cond.code yX3_pass prog_5_method_10_code (9 : Nat) (Option.some Jvm.ClassFile.FieldType.int)) ∈ lw_all := List.mem_filter.mpr ⟨List.mem_of_getElem? (i := 824) (by decide +kernel), by decide +kernel⟩
theorem q_779 : (Cond.methodLink "MilkRoundLaw" (136 : Nat) yX3_day) ∈ lw_all := List.mem_filter.mpr ⟨List.mem_of_getElem? (i := 825) (by decide +kernel), by decide +kernel⟩
theorem q_780 : (Cond.instanceMethod yX3_day) ∈ lw_all := List.mem_filter.mpr ⟨List.mem_of_getElem? (i := 826) (by decide +kernel), by decide +kernel⟩
theorem q_781 : (Cond.selects "MilkRoundModel" yX3_day yX3_day) ∈ lw_all := List.mem_filter.mpr ⟨List.mem_of_getElem? (i := 827) (by decide +kernel), by decide +kernel⟩
theorem q_782 : (Cond.code yX3_day prog_5_method_11_code (1 : Nat) (Option.some Jvm.ClassFile.FieldType.int)) ∈ lw_all := List.mem_filter.mpr ⟨List.mem_of_getElem? (i := 828) (by decide +kernel), by decide +kernel⟩
theorem q_783 : (Cond.methodLink "MilkRoundLaw" (139 : Nat) yX3_addVat) ∈ lw_all := List.mem_filter.mpr ⟨List.mem_of_getElem? (i := 829) (by decide +kernel), by decide +kernel⟩
theorem q_784 : (Cond.instanceMethod yX3_addVat) ∈ lw_all := List.mem_filter.mpr ⟨List.mem_of_getElem? (i := 830) (by decide +kernel), by decide +kernel⟩
theorem q_785 : (Cond.selects "MilkRoundModel" yX3_addVat yX3_addVat) ∈ lw_all := List.mem_filter.mpr ⟨List.mem_of_getElem? (i := 831) (by decide +kernel), by decide +kernel⟩
theorem q_786 : (Cond.code yX3_addVat prog_5_method_12_code (2 : Nat) (Option.some Jvm.ClassFile.FieldType.int)) ∈ lw_all := List.mem_filter.mpr ⟨List.mem_of_getElem? (i := 832) (by decide +kernel), by decide +kernel⟩
theorem q_787 : (Cond.constantLong "MilkRoundModel" (80 : Nat) (100 : Int64)) ∈ lw_all := List.mem_filter.mpr ⟨List.mem_of_getElem? (i := 833) (by decide +kernel), by decide +kernel⟩
theorem q_788 : (Cond.constantLong "MilkRoundModel" (82 : Nat) (900 : Int64)) ∈ lw_all := List.mem_filter.mpr ⟨List.mem_of_getElem? (i := 834) (by decide +kernel), by decide +kernel⟩
theorem q_789 : (Cond.methodLink "MilkRoundLaw" (143 : Nat) yX3_beginRound) ∈ lw_all := List.mem_filter.mpr ⟨List.mem_of_getElem? (i := 835) (by decide +kernel), by decide +kernel⟩
theorem q_790 : (Cond.instanceMethod yX3_beginRound) ∈ lw_all := List.mem_filter.mpr ⟨List.mem_of_getElem? (i := 836) (by decide +kernel), by decide +kernel⟩
theorem q_791 : (Cond.selects "MilkRoundModel" yX3_beginRound yX3_beginRound) ∈ lw_all := List.mem_filter.mpr ⟨List.mem_of_getElem? (i := 837) (by decide +kernel), by decide +kernel⟩
theorem q_792 : (Cond.code yX3_beginRound prog_5_method_13_code (2 : Nat) (Option.some Jvm.ClassFile.FieldType.int)) ∈ lw_all := List.mem_filter.mpr ⟨List.mem_of_getElem? (i := 838) (by decide +kernel), by decide +kernel⟩
theorem q_793 : (Cond.methodLink "MilkRoundLaw" (146 : Nat) yX3_visit) ∈ lw_all := List.mem_filter.mpr ⟨List.mem_of_getElem? (i := 839) (by decide +kernel), by decide +kernel⟩
theorem q_794 : (Cond.instanceMethod yX3_visit) ∈ lw_all := List.mem_filter.mpr ⟨List.mem_of_getElem? (i := 840) (by decide +kernel), by decide +kernel⟩
theorem q_795 : (Cond.selects "MilkRoundModel" yX3_visit yX3_visit) ∈ lw_all := List.mem_filter.mpr ⟨List.mem_of_getElem? (i := 841) (by decide +kernel), by decide +kernel⟩
theorem q_796 : (Cond.code yX3_visit prog_5_method_14_code (4 : Nat) (Option.some Jvm.ClassFile.FieldType.int)) ∈ lw_all := List.mem_filter.mpr ⟨List.mem_of_getElem? (i := 842) (by decide +kernel), by decide +kernel⟩
theorem q_797 : (Cond.methodLink "MilkRoundLaw" (149 : Nat) yX3_endRound) ∈ lw_all := List.mem_filter.mpr ⟨List.mem_of_getElem? (i := 843) (by decide +kernel), by decide +kernel⟩
theorem q_798 : (Cond.instanceMethod yX3_endRound) ∈ lw_all := List.mem_filter.mpr ⟨List.mem_of_getElem? (i := 844) (by decide +kernel), by decide +kernel⟩
theorem q_799 : (Cond.selects "MilkRoundModel" yX3_endRound yX3_endRound) ∈ lw_all := List.mem_filter.mpr ⟨List.mem_of_getElem? (i := 845) (by decide +kernel), by decide +kernel⟩
theorem q_800 : (Cond.code yX3_endRound prog_5_method_17_code (4 : Nat) (Option.some Jvm.ClassFile.FieldType.int)) ∈ lw_all := List.mem_filter.mpr ⟨List.mem_of_getElem? (i := 846) (by decide +kernel), by decide +kernel⟩
theorem q_801 : (Cond.methodLink "MilkRoundModel" (100 : Nat) yX3_isVat) ∈ lw_all := List.mem_filter.mpr ⟨List.mem_of_getElem? (i := 847) (by decide +kernel), by decide +kernel⟩
theorem q_803 : (Cond.instanceMethod yX3_isVat) ∈ lw_all := List.mem_filter.mpr ⟨List.mem_of_getElem? (i := 849) (by decide +kernel), by decide +kernel⟩
theorem q_804 : (Cond.code yX3_isVat prog_5_method_15_code (2 : Nat) (Option.some Jvm.ClassFile.FieldType.boolean)) ∈ lw_all := List.mem_filter.mpr ⟨List.mem_of_getElem? (i := 850) (by decide +kernel), by decide +kernel⟩
theorem q_805 : (Cond.methodLink "MilkRoundModel" (103 : Nat) yX3_onWay) ∈ lw_all := List.mem_filter.mpr ⟨List.mem_of_getElem? (i := 851) (by decide +kernel), by decide +kernel⟩
theorem q_807 : (Cond.instanceMethod yX3_onWay) ∈ lw_all := List.mem_filter.mpr ⟨List.mem_of_getElem? (i := 853) (by decide +kernel), by decide +kernel⟩
theorem q_808 : (Cond.code yX3_onWay prog_5_method_16_code (4 : Nat) (Option.some Jvm.ClassFile.FieldType.int)) ∈ lw_all := List.mem_filter.mpr ⟨List.mem_of_getElem? (i := 854) (by decide +kernel), by decide +kernel⟩
theorem q_809 : (Cond.methodLink "MilkRoundLaw" (153 : Nat) yX3_inTanker) ∈ lw_all := List.mem_filter.mpr ⟨List.mem_of_getElem? (i := 855) (by decide +kernel), by decide +kernel⟩
theorem q_810 : (Cond.instanceMethod yX3_inTanker) ∈ lw_all := List.mem_filter.mpr ⟨List.mem_of_getElem? (i := 856) (by decide +kernel), by decide +kernel⟩
theorem q_811 : (Cond.selects "MilkRoundModel" yX3_inTanker yX3_inTanker) ∈ lw_all := List.mem_filter.mpr ⟨List.mem_of_getElem? (i := 857) (by decide +kernel), by decide +kernel⟩
theorem q_812 : (Cond.code yX3_inTanker prog_5_method_18_code (1 : Nat) (Option.some Jvm.ClassFile.FieldType.int)) ∈ lw_all := List.mem_filter.mpr ⟨List.mem_of_getElem? (i := 858) (by decide +kernel), by decide +kernel⟩
theorem q_813 : (Cond.methodLink "MilkRoundLaw" (156 : Nat) yX3_inVat) ∈ lw_all := List.mem_filter.mpr ⟨List.mem_of_getElem? (i := 859) (by decide +kernel), by decide +kernel⟩
theorem q_814 : (Cond.instanceMethod yX3_inVat) ∈ lw_all := List.mem_filter.mpr ⟨List.mem_of_getElem? (i := 860) (by decide +kernel), by decide +kernel⟩
theorem q_815 : (Cond.selects "MilkRoundModel" yX3_inVat yX3_inVat) ∈ lw_all := List.mem_filter.mpr ⟨List.mem_of_getElem? (i := 861) (by decide +kernel), by decide +kernel⟩
theorem q_816 : (Cond.code yX3_inVat prog_5_method_19_code (2 : Nat) (Option.some Jvm.ClassFile.FieldType.int)) ∈ lw_all := List.mem_filter.mpr ⟨List.mem_of_getElem? (i := 862) (by decide +kernel), by decide +kernel⟩
theorem q_817 : (Cond.methodLink "MilkRoundLaw" (159 : Nat) yX3_bestVat) ∈ lw_all := List.mem_filter.mpr ⟨List.mem_of_getElem? (i := 863) (by decide +kernel), by decide +kernel⟩
theorem q_818 : (Cond.instanceMethod yX3_bestVat) ∈ lw_all := List.mem_filter.mpr ⟨List.mem_of_getElem? (i := 864) (by decide +kernel), by decide +kernel⟩
theorem q_819 : (Cond.selects "MilkRoundModel" yX3_bestVat yX3_bestVat) ∈ lw_all := List.mem_filter.mpr ⟨List.mem_of_getElem? (i := 865) (by decide +kernel), by decide +kernel⟩
theorem q_820 : (Cond.code yX3_bestVat prog_5_method_20_code (5 : Nat) (Option.some Jvm.ClassFile.FieldType.int)) ∈ lw_all := List.mem_filter.mpr ⟨List.mem_of_getElem? (i := 866) (by decide +kernel), by decide +kernel⟩
theorem q_821 : (Cond.methodLink "MilkRoundLaw" (162 : Nat) yX3_close) ∈ lw_all := List.mem_filter.mpr ⟨List.mem_of_getElem? (i := 867) (by decide +kernel), by decide +kernel⟩
theorem q_822 : (Cond.instanceMethod yX3_close) ∈ lw_all := List.mem_filter.mpr ⟨List.mem_of_getElem? (i := 868) (by decide +kernel), by decide +kernel⟩
theorem q_823 : (Cond.selects "MilkRoundModel" yX3_close yX3_close) ∈ lw_all := List.mem_filter.mpr ⟨List.mem_of_getElem? (i := 869) (by decide +kernel), by decide +kernel⟩
theorem q_824 : (Cond.code yX3_close prog_5_method_21_code (3 : Nat) (Option.some Jvm.ClassFile.FieldType.int)) ∈ lw_all := List.mem_filter.mpr ⟨List.mem_of_getElem? (i := 870) (by decide +kernel), by decide +kernel⟩
theorem q_825 : (Cond.methodLink "MilkRoundLaw" (166 : Nat) yX3_samples) ∈ lw_all := List.mem_filter.mpr ⟨List.mem_of_getElem? (i := 871) (by decide +kernel), by decide +kernel⟩
theorem q_826 : (Cond.instanceMethod yX3_samples) ∈ lw_all := List.mem_filter.mpr ⟨List.mem_of_getElem? (i := 872) (by decide +kernel), by decide +kernel⟩
theorem q_827 : (Cond.selects "MilkRoundModel" yX3_samples yX3_samples) ∈ lw_all := List.mem_filter.mpr ⟨List.mem_of_getElem? (i := 873) (by decide +kernel), by decide +kernel⟩
theorem q_828 : (Cond.code yX3_samples prog_5_method_22_code (1 : Nat) (Option.some Jvm.ClassFile.FieldType.int)) ∈ lw_all := List.mem_filter.mpr ⟨List.mem_of_getElem? (i := 874) (by decide +kernel), by decide +kernel⟩
theorem q_829 : (Cond.methodLink "MilkRoundLaw" (169 : Nat) yX3_farmOf) ∈ lw_all := List.mem_filter.mpr ⟨List.mem_of_getElem? (i := 875) (by decide +kernel), by decide +kernel⟩
theorem q_830 : (Cond.instanceMethod yX3_farmOf) ∈ lw_all := List.mem_filter.mpr ⟨List.mem_of_getElem? (i := 876) (by decide +kernel), by decide +kernel⟩
theorem q_831 : (Cond.selects "MilkRoundModel" yX3_farmOf yX3_farmOf) ∈ lw_all := List.mem_filter.mpr ⟨List.mem_of_getElem? (i := 877) (by decide +kernel), by decide +kernel⟩
theorem q_832 : (Cond.code yX3_farmOf prog_5_method_24_code (2 : Nat) (Option.some Jvm.ClassFile.FieldType.int)) ∈ lw_all := List.mem_filter.mpr ⟨List.mem_of_getElem? (i := 878) (by decide +kernel), by decide +kernel⟩
theorem q_833 : (Cond.methodLink "MilkRoundModel" (110 : Nat) yX3_isSample) ∈ lw_all := List.mem_filter.mpr ⟨List.mem_of_getElem? (i := 879) (by decide +kernel), by decide +kernel⟩
theorem q_835 : (Cond.instanceMethod yX3_isSample) ∈ lw_all := List.mem_filter.mpr ⟨List.mem_of_getElem? (i := 881) (by decide +kernel), by decide +kernel⟩
theorem q_836 : (Cond.code yX3_isSample prog_5_method_23_code (2 : Nat) (Option.some Jvm.ClassFile.FieldType.boolean)) ∈ lw_all := List.mem_filter.mpr ⟨List.mem_of_getElem? (i := 882) (by decide +kernel), by decide +kernel⟩
theorem q_837 : (Cond.methodLink "MilkRoundLaw" (172 : Nat) yX3_litres) ∈ lw_all := List.mem_filter.mpr ⟨List.mem_of_getElem? (i := 883) (by decide +kernel), by decide +kernel⟩
theorem q_838 : (Cond.instanceMethod yX3_litres) ∈ lw_all := List.mem_filter.mpr ⟨List.mem_of_getElem? (i := 884) (by decide +kernel), by decide +kernel⟩
theorem q_839 : (Cond.selects "MilkRoundModel" yX3_litres yX3_litres) ∈ lw_all := List.mem_filter.mpr ⟨List.mem_of_getElem? (i := 885) (by decide +kernel), by decide +kernel⟩
theorem q_840 : (Cond.code yX3_litres prog_5_method_25_code (2 : Nat) (Option.some Jvm.ClassFile.FieldType.int)) ∈ lw_all := List.mem_filter.mpr ⟨List.mem_of_getElem? (i := 886) (by decide +kernel), by decide +kernel⟩
theorem q_841 : (Cond.methodLink "MilkRoundLaw" (176 : Nat) yX3_grade) ∈ lw_all := List.mem_filter.mpr ⟨List.mem_of_getElem? (i := 887) (by decide +kernel), by decide +kernel⟩
theorem q_842 : (Cond.instanceMethod yX3_grade) ∈ lw_all := List.mem_filter.mpr ⟨List.mem_of_getElem? (i := 888) (by decide +kernel), by decide +kernel⟩
theorem q_843 : (Cond.selects "MilkRoundModel" yX3_grade yX3_grade) ∈ lw_all := List.mem_filter.mpr ⟨List.mem_of_getElem? (i := 889) (by decide +kernel), by decide +kernel⟩
theorem q_844 : (Cond.code yX3_grade prog_5_method_26_code (6 : Nat) (Option.some Jvm.ClassFile.FieldType.int)) ∈ lw_all := List.mem_filter.mpr ⟨List.mem_of_getElem? (i := 890) (by decide +kernel), by decide +kernel⟩
theorem q_845 : (Cond.methodLink "MilkRoundLaw" (179 : Nat) yX3_gradeOf) ∈ lw_all := List.mem_filter.mpr ⟨List.mem_of_getElem? (i := 891) (by decide +kernel), by decide +kernel⟩
theorem q_846 : (Cond.instanceMethod yX3_gradeOf) ∈ lw_all := List.mem_filter.mpr ⟨List.mem_of_getElem? (i := 892) (by decide +kernel), by decide +kernel⟩
theorem q_847 : (Cond.selects "MilkRoundModel" yX3_gradeOf yX3_gradeOf) ∈ lw_all := List.mem_filter.mpr ⟨List.mem_of_getElem? (i := 893) (by decide +kernel), by decide +kernel⟩
theorem q_848 : (Cond.code yX3_gradeOf prog_5_method_27_code (2 : Nat) (Option.some Jvm.ClassFile.FieldType.char)) ∈ lw_all := List.mem_filter.mpr ⟨List.mem_of_getElem? (i := 894) (by decide +kernel), by decide +kernel⟩
theorem q_849 : (Cond.methodLink "MilkRoundLaw" (183 : Nat) yX3_batches) ∈ lw_all := List.mem_filter.mpr ⟨List.mem_of_getElem? (i := 895) (by decide +kernel), by decide +kernel⟩
theorem q_850 : (Cond.instanceMethod yX3_batches) ∈ lw_all := List.mem_filter.mpr ⟨List.mem_of_getElem? (i := 896) (by decide +kernel), by decide +kernel⟩
theorem q_851 : (Cond.selects "MilkRoundModel" yX3_batches yX3_batches) ∈ lw_all := List.mem_filter.mpr ⟨List.mem_of_getElem? (i := 897) (by decide +kernel), by decide +kernel⟩
theorem q_852 : (Cond.code yX3_batches prog_5_method_28_code (1 : Nat) (Option.some Jvm.ClassFile.FieldType.int)) ∈ lw_all := List.mem_filter.mpr ⟨List.mem_of_getElem? (i := 898) (by decide +kernel), by decide +kernel⟩
theorem q_853 : (Cond.methodLink "MilkRoundLaw" (186 : Nat) yX3_stateOf) ∈ lw_all := List.mem_filter.mpr ⟨List.mem_of_getElem? (i := 899) (by decide +kernel), by decide +kernel⟩
theorem q_854 : (Cond.instanceMethod yX3_stateOf) ∈ lw_all := List.mem_filter.mpr ⟨List.mem_of_getElem? (i := 900) (by decide +kernel), by decide +kernel⟩
theorem q_855 : (Cond.selects "MilkRoundModel" yX3_stateOf yX3_stateOf) ∈ lw_all := List.mem_filter.mpr ⟨List.mem_of_getElem? (i := 901) (by decide +kernel), by decide +kernel⟩
theorem q_856 : (Cond.code yX3_stateOf prog_5_method_31_code (2 : Nat) (Option.some Jvm.ClassFile.FieldType.char)) ∈ lw_all := List.mem_filter.mpr ⟨List.mem_of_getElem? (i := 902) (by decide +kernel), by decide +kernel⟩
theorem q_857 : (Cond.methodLink "MilkRoundModel" (113 : Nat) yX3_isBatch) ∈ lw_all := List.mem_filter.mpr ⟨List.mem_of_getElem? (i := 903) (by decide +kernel), by decide +kernel⟩
theorem q_859 : (Cond.instanceMethod yX3_isBatch) ∈ lw_all := List.mem_filter.mpr ⟨List.mem_of_getElem? (i := 905) (by decide +kernel), by decide +kernel⟩
theorem q_860 : (Cond.code yX3_isBatch prog_5_method_30_code (2 : Nat) (Option.some Jvm.ClassFile.FieldType.boolean)) ∈ lw_all := List.mem_filter.mpr ⟨List.mem_of_getElem? (i := 906) (by decide +kernel), by decide +kernel⟩
theorem q_861 : (Cond.methodLink "MilkRoundModel" (116 : Nat) yX3_has) ∈ lw_all := List.mem_filter.mpr ⟨List.mem_of_getElem? (i := 907) (by decide +kernel), by decide +kernel⟩
theorem q_863 : (Cond.instanceMethod yX3_has) ∈ lw_all := List.mem_filter.mpr ⟨List.mem_of_getElem? (i := 909) (by decide +kernel), by decide +kernel⟩
theorem q_864 : (Cond.code yX3_has prog_5_method_29_code (5 : Nat) (Option.some Jvm.ClassFile.FieldType.boolean)) ∈ lw_all := List.mem_filter.mpr ⟨List.mem_of_getElem? (i := 910) (by decide +kernel), by decide +kernel⟩
theorem q_865 : (Cond.methodLink "MilkRoundLaw" (189 : Nat) yX3_share) ∈ lw_all := List.mem_filter.mpr ⟨List.mem_of_getElem? (i := 911) (by decide +kernel), by decide +kernel⟩
theorem q_866 : (Cond.instanceMethod yX3_share) ∈ lw_all := List.mem_filter.mpr ⟨List.mem_of_getElem? (i := 912) (by decide +kernel), by decide +kernel⟩
theorem q_867 : (Cond.selects "MilkRoundModel" yX3_share yX3_share) ∈ lw_all := List.mem_filter.mpr ⟨List.mem_of_getElem? (i := 913) (by decide +kernel), by decide +kernel⟩
theorem q_868 : (Cond.code yX3_share prog_5_method_32_code (5 : Nat) (Option.some Jvm.ClassFile.FieldType.int)) ∈ lw_all := List.mem_filter.mpr ⟨List.mem_of_getElem? (i := 914) (by decide +kernel), by decide +kernel⟩
theorem q_869 : (Cond.methodLink "MilkRoundLaw" (192 : Nat) yX3_worth) ∈ lw_all := List.mem_filter.mpr ⟨List.mem_of_getElem? (i := 915) (by decide +kernel), by decide +kernel⟩
theorem q_870 : (Cond.instanceMethod yX3_worth) ∈ lw_all := List.mem_filter.mpr ⟨List.mem_of_getElem? (i := 916) (by decide +kernel), by decide +kernel⟩
theorem q_871 : (Cond.selects "MilkRoundModel" yX3_worth yX3_worth) ∈ lw_all := List.mem_filter.mpr ⟨List.mem_of_getElem? (i := 917) (by decide +kernel), by decide +kernel⟩
theorem q_872 : (Cond.code yX3_worth prog_5_method_38_code (4 : Nat) (Option.some Jvm.ClassFile.FieldType.int)) ∈ lw_all := List.mem_filter.mpr ⟨List.mem_of_getElem? (i := 918) (by decide +kernel), by decide +kernel⟩
theorem q_873 : (Cond.methodLink "MilkRoundModel" (126 : Nat) yX3_isGraded) ∈ lw_all := List.mem_filter.mpr ⟨List.mem_of_getElem? (i := 919) (by decide +kernel), by decide +kernel⟩
theorem q_875 : (Cond.instanceMethod yX3_isGraded) ∈ lw_all := List.mem_filter.mpr ⟨List.mem_of_getElem? (i := 921) (by decide +kernel), by decide +kernel⟩
theorem q_876 : (Cond.code yX3_isGraded prog_5_method_37_code (2 : Nat) (Option.some Jvm.ClassFile.FieldType.boolean)) ∈ lw_all := List.mem_filter.mpr ⟨List.mem_of_getElem? (i := 922) (by decide +kernel), by decide +kernel⟩
theorem q_877 : (Cond.methodLink "MilkRoundModel" (129 : Nat) yX3_payOf) ∈ lw_all := List.mem_filter.mpr ⟨List.mem_of_getElem? (i := 923) (by decide +kernel), by decide +kernel⟩
theorem q_879 : (Cond.instanceMethod yX3_payOf) ∈ lw_all := List.mem_filter.mpr ⟨List.mem_of_getElem? (i := 925) (by decide +kernel), by decide +kernel⟩
theorem q_880 : (Cond.code yX3_payOf prog_5_method_34_code (2 : Nat) (Option.some Jvm.ClassFile.FieldType.int)) ∈ lw_all := List.mem_filter.mpr ⟨List.mem_of_getElem? (i := 926) (by decide +kernel), by decide +kernel⟩
theorem q_881 : (Cond.methodLink "MilkRoundModel" (120 : Nat) yX3_worthOf) ∈ lw_all := List.mem_filter.mpr ⟨List.mem_of_getElem? (i := 927) (by decide +kernel), by decide +kernel⟩
theorem q_883 : (Cond.instanceMethod yX3_worthOf) ∈ lw_all := List.mem_filter.mpr ⟨List.mem_of_getElem? (i := 929) (by decide +kernel), by decide +kernel⟩
theorem q_884 : (Cond.code yX3_worthOf prog_5_method_33_code (3 : Nat) (Option.some Jvm.ClassFile.FieldType.int)) ∈ lw_all := List.mem_filter.mpr ⟨List.mem_of_getElem? (i := 930) (by decide +kernel), by decide +kernel⟩
theorem q_885 : (Cond.methodLink "MilkRoundLaw" (195 : Nat) yX3_loss) ∈ lw_all := List.mem_filter.mpr ⟨List.mem_of_getElem? (i := 931) (by decide +kernel), by decide +kernel⟩
theorem q_886 : (Cond.instanceMethod yX3_loss) ∈ lw_all := List.mem_filter.mpr ⟨List.mem_of_getElem? (i := 932) (by decide +kernel), by decide +kernel⟩
theorem q_887 : (Cond.selects "MilkRoundModel" yX3_loss yX3_loss) ∈ lw_all := List.mem_filter.mpr ⟨List.mem_of_getElem? (i := 933) (by decide +kernel), by decide +kernel⟩
theorem q_888 : (Cond.code yX3_loss prog_5_method_39_code (2 : Nat) (Option.some Jvm.ClassFile.FieldType.int)) ∈ lw_all := List.mem_filter.mpr ⟨List.mem_of_getElem? (i := 934) (by decide +kernel), by decide +kernel⟩
theorem q_889 : (Cond.methodLink "MilkRoundModel" (123 : Nat) yX3_lossOf) ∈ lw_all := List.mem_filter.mpr ⟨List.mem_of_getElem? (i := 935) (by decide +kernel), by decide +kernel⟩
theorem q_891 : (Cond.instanceMethod yX3_lossOf) ∈ lw_all := List.mem_filter.mpr ⟨List.mem_of_getElem? (i := 937) (by decide +kernel), by decide +kernel⟩
theorem q_892 : (Cond.code yX3_lossOf prog_5_method_35_code (4 : Nat) (Option.some Jvm.ClassFile.FieldType.int)) ∈ lw_all := List.mem_filter.mpr ⟨List.mem_of_getElem? (i := 938) (by decide +kernel), by decide +kernel⟩
theorem q_893 : (Cond.methodLink "MilkRoundLaw" (198 : Nat) yX3_pay) ∈ lw_all := List.mem_filter.mpr ⟨List.mem_of_getElem? (i := 939) (by decide +kernel), by decide +kernel⟩
theorem q_894 : (Cond.instanceMethod yX3_pay) ∈ lw_all := List.mem_filter.mpr ⟨List.mem_of_getElem? (i := 940) (by decide +kernel), by decide +kernel⟩
theorem q_895 : (Cond.selects "MilkRoundModel" yX3_pay yX3_pay) ∈ lw_all := List.mem_filter.mpr ⟨List.mem_of_getElem? (i := 941) (by decide +kernel), by decide +kernel⟩
theorem q_896 : (Cond.code yX3_pay prog_5_method_41_code (5 : Nat) (Option.some Jvm.ClassFile.FieldType.long)) ∈ lw_all := List.mem_filter.mpr ⟨List.mem_of_getElem? (i := 942) (by decide +kernel), by decide +kernel⟩
theorem q_897 : (Cond.constantLong "MilkRoundModel" (132 : Nat) (-1 : Int64)) ∈ lw_all := List.mem_filter.mpr ⟨List.mem_of_getElem? (i := 943) (by decide +kernel), by decide +kernel⟩
theorem q_898 : (Cond.methodLink "MilkRoundModel" (134 : Nat) yX3_counts) ∈ lw_all := List.mem_filter.mpr ⟨List.mem_of_getElem? (i := 944) (by decide +kernel), by decide +kernel⟩
theorem q_900 : (Cond.instanceMethod yX3_counts) ∈ lw_all := List.mem_filter.mpr ⟨List.mem_of_getElem? (i := 946) (by decide +kernel), by decide +kernel⟩
theorem q_901 : (Cond.code yX3_counts prog_5_method_40_code (3 : Nat) (Option.some Jvm.ClassFile.FieldType.boolean)) ∈ lw_all := List.mem_filter.mpr ⟨List.mem_of_getElem? (i := 947) (by decide +kernel), by decide +kernel⟩
theorem q_902 : (Cond.methodLink "MilkRoundLaw" (201 : Nat) yX3_blame) ∈ lw_all := List.mem_filter.mpr ⟨List.mem_of_getElem? (i := 948) (by decide +kernel), by decide +kernel⟩
theorem q_903 : (Cond.instanceMethod yX3_blame) ∈ lw_all := List.mem_filter.mpr ⟨List.mem_of_getElem? (i := 949) (by decide +kernel), by decide +kernel⟩
theorem q_904 : (Cond.selects "MilkRoundModel" yX3_blame yX3_blame) ∈ lw_all := List.mem_filter.mpr ⟨List.mem_of_getElem? (i := 950) (by decide +kernel), by decide +kernel⟩
theorem q_905 : (Cond.code yX3_blame prog_5_method_42_code (5 : Nat) (Option.some Jvm.ClassFile.FieldType.long)) ∈ lw_all := List.mem_filter.mpr ⟨List.mem_of_getElem? (i := 951) (by decide +kernel), by decide +kernel⟩
theorem q_906 : (Cond.methodLink "MilkRoundModel" (138 : Nat) yX3_blameOf) ∈ lw_all := List.mem_filter.mpr ⟨List.mem_of_getElem? (i := 952) (by decide +kernel), by decide +kernel⟩
theorem q_908 : (Cond.instanceMethod yX3_blameOf) ∈ lw_all := List.mem_filter.mpr ⟨List.mem_of_getElem? (i := 954) (by decide +kernel), by decide +kernel⟩
theorem q_909 : (Cond.code yX3_blameOf prog_5_method_36_code (9 : Nat) (Option.some Jvm.ClassFile.FieldType.int)) ∈ lw_all := List.mem_filter.mpr ⟨List.mem_of_getElem? (i := 955) (by decide +kernel), by decide +kernel⟩
theorem q_910 : (Cond.methodLink "MilkRoundLaw" (204 : Nat) yX3_balanceBySamples) ∈ lw_all := List.mem_filter.mpr ⟨List.mem_of_getElem? (i := 956) (by decide +kernel), by decide +kernel⟩
theorem q_911 : (Cond.instanceMethod yX3_balanceBySamples) ∈ lw_all := List.mem_filter.mpr ⟨List.mem_of_getElem? (i := 957) (by decide +kernel), by decide +kernel⟩
theorem q_912 : (Cond.selects "MilkRoundModel" yX3_balanceBySamples yX3_balanceBySamples) ∈ lw_all := List.mem_filter.mpr ⟨List.mem_of_getElem? (i := 958) (by decide +kernel), by decide +kernel⟩
theorem q_913 : (Cond.code yX3_balanceBySamples prog_5_method_43_code (2 : Nat) (Option.some Jvm.ClassFile.FieldType.long)) ∈ lw_all := List.mem_filter.mpr ⟨List.mem_of_getElem? (i := 959) (by decide +kernel), by decide +kernel⟩
theorem q_914 : (Cond.methodLink "MilkRoundModel" (141 : Nat) yX3_pay) ∈ lw_all := List.mem_filter.mpr ⟨List.mem_of_getElem? (i := 960) (by decide +kernel), by decide +kernel⟩
theorem q_915 : (Cond.methodLink "MilkRoundModel" (145 : Nat) yX3_blame) ∈ lw_all := List.mem_filter.mpr ⟨List.mem_of_getElem? (i := 961) (by decide +kernel), by decide +kernel⟩
theorem q_916 : (Cond.methodLink "MilkRoundLaw" (207 : Nat) yX3_wayOf) ∈ lw_all := List.mem_filter.mpr ⟨List.mem_of_getElem? (i := 962) (by decide +kernel), by decide +kernel⟩
theorem q_917 : (Cond.instanceMethod yX3_wayOf) ∈ lw_all := List.mem_filter.mpr ⟨List.mem_of_getElem? (i := 963) (by decide +kernel), by decide +kernel⟩
theorem q_918 : (Cond.selects "MilkRoundModel" yX3_wayOf yX3_wayOf) ∈ lw_all := List.mem_filter.mpr ⟨List.mem_of_getElem? (i := 964) (by decide +kernel), by decide +kernel⟩
theorem q_919 : (Cond.code yX3_wayOf prog_5_method_44_code (2 : Nat) (Option.some Jvm.ClassFile.FieldType.char)) ∈ lw_all := List.mem_filter.mpr ⟨List.mem_of_getElem? (i := 965) (by decide +kernel), by decide +kernel⟩
theorem q_920 : (Cond.methodLink "MilkRoundLaw" (211 : Nat) yX3_spoiltShare) ∈ lw_all := List.mem_filter.mpr ⟨List.mem_of_getElem? (i := 966) (by decide +kernel), by decide +kernel⟩
theorem q_921 : (Cond.instanceMethod yX3_spoiltShare) ∈ lw_all := List.mem_filter.mpr ⟨List.mem_of_getElem? (i := 967) (by decide +kernel), by decide +kernel⟩
theorem q_922 : (Cond.selects "MilkRoundModel" yX3_spoiltShare yX3_spoiltShare) ∈ lw_all := List.mem_filter.mpr ⟨List.mem_of_getElem? (i := 968) (by decide +kernel), by decide +kernel⟩
theorem q_923 : (Cond.code yX3_spoiltShare prog_5_method_45_code (4 : Nat) (Option.some Jvm.ClassFile.FieldType.float)) ∈ lw_all := List.mem_filter.mpr ⟨List.mem_of_getElem? (i := 969) (by decide +kernel), by decide +kernel⟩
theorem q_924 : (Cond.methodLink "MilkRoundLaw" (214 : Nat) yX3_meanPay) ∈ lw_all := List.mem_filter.mpr ⟨List.mem_of_getElem? (i := 970) (by decide +kernel), by decide +kernel⟩
theorem q_925 : (Cond.instanceMethod yX3_meanPay) ∈ lw_all := List.mem_filter.mpr ⟨List.mem_of_getElem? (i := 971) (by decide +kernel), by decide +kernel⟩
theorem q_926 : (Cond.selects "MilkRoundModel" yX3_meanPay yX3_meanPay) ∈ lw_all := List.mem_filter.mpr ⟨List.mem_of_getElem? (i := 972) (by decide +kernel), by decide +kernel⟩
theorem q_927 : (Cond.code yX3_meanPay prog_5_method_46_code (5 : Nat) (Option.some Jvm.ClassFile.FieldType.double)) ∈ lw_all := List.mem_filter.mpr ⟨List.mem_of_getElem? (i := 973) (by decide +kernel), by decide +kernel⟩
theorem q_928 : (Cond.arrayClass Jvm.ClassFile.FieldType.long) ∈ lw_all := List.mem_filter.mpr ⟨List.mem_of_getElem? (i := 974) (by decide +kernel), by decide +kernel⟩
theorem q_929 : (Cond.arrayClass Jvm.ClassFile.FieldType.double) ∈ lw_all := List.mem_filter.mpr ⟨List.mem_of_getElem? (i := 975) (by decide +kernel), by decide +kernel⟩
theorem inX0 : ∀ w ∈ wsX00, w ∈ lw_all := fun w h => List.mem_filter.mpr ⟨(show ∀ w ∈ wsX00, w ∈ lw_tbl by decide +kernel) w h, (show ∀ w ∈ wsX00, goodWord w = true by decide +kernel) w h⟩
theorem inX1 : ∀ w ∈ wsX10, w ∈ lw_all := fun w h => List.mem_filter.mpr ⟨(show ∀ w ∈ wsX10, w ∈ lw_tbl by decide +kernel) w h, (show ∀ w ∈ wsX10, goodWord w = true by decide +kernel) w h⟩
theorem inX2 : ∀ w ∈ wsX20, w ∈ lw_all := fun w h => List.mem_filter.mpr ⟨(show ∀ w ∈ wsX20, w ∈ lw_tbl by decide +kernel) w h, (show ∀ w ∈ wsX20, goodWord w = true by decide +kernel) w h⟩
theorem inX3 : ∀ w ∈ wsX30, w ∈ lw_all := fun w h => List.mem_filter.mpr ⟨(show ∀ w ∈ wsX30, w ∈ lw_tbl by decide +kernel) w h, (show ∀ w ∈ wsX30, goodWord w = true by decide +kernel) w h⟩
end
section
def kNF : List (Nat × String × String × String) := [(55, "MilkRound$Farms", "count", "I"), (87, "MilkRound$Farms", "tanks", "[I"), (73, "MilkRound$Farms", "cows", "[I"), (105, "MilkRound$Samples", "count", "I"), (160, "MilkRound$Samples", "farm", "[I"), (163, "MilkRound$Samples", "amount", "[I"), (168, "MilkRound$Samples", "mark", "[C"), (174, "MilkRound$Samples", "place", "[C"), (177, "MilkRound$Samples", "number", "[I")]
def kNM : List (Nat × MethodName) := [(15, yX0_init), (40, yX1_init), (142, yX1_litresIn), (63, yX0_add), (78, yX0_addCowTo), (84, yX0_milkOn), (92, yX0_milkAll), (112, yX0_draw), (115, yX1_add), (129, yX1_countIn), (135, yX1_move), (154, yX1_settle), (180, yX1_ungraded), (186, yX1_isSpoilt), (190, yX1_isGraded), (193, yX1_shareAt), (201, yX1_payOfAll), (204, yX1_lossOf), (207, yX1_paidTo), (210, yX1_blamedOn), (213, yX1_balanceOf), (217, yX1_allLitres)]
def kCa : List (String × String) := [("java/lang/IllegalArgumentException", "java/lang/IllegalArgumentException"), ("java/lang/IllegalStateException", "java/lang/IllegalStateException"), ("java/lang/ArrayIndexOutOfBoundsException", "java/lang/ArrayIndexOutOfBoundsException"), ("java/lang/IndexOutOfBoundsException", "java/lang/IndexOutOfBoundsException"), ("java/lang/UnsupportedOperationException", "java/lang/UnsupportedOperationException"), ("java/util/NoSuchElementException", "java/util/NoSuchElementException"), ("java/lang/ArithmeticException", "java/lang/ArithmeticException"), ("java/lang/ArrayIndexOutOfBoundsException", "java/lang/IndexOutOfBoundsException"), ("MilkRound", "java/lang/Object"), ("MilkRound$Farms", "java/lang/Object"), ("MilkRound$Samples", "java/lang/Object"), ("MilkRoundModel", "java/lang/Object"), ("java/lang/IllegalArgumentException", "java/lang/Object"), ("java/lang/IllegalStateException", "java/lang/Object"), ("java/lang/ArrayIndexOutOfBoundsException", "java/lang/Object"), ("java/lang/IndexOutOfBoundsException", "java/lang/Object"), ("java/lang/UnsupportedOperationException", "java/lang/Object"), ("java/util/NoSuchElementException", "java/lang/Object"), ("java/lang/ArithmeticException", "java/lang/Object"), ("java/lang/Throwable", "java/lang/Object"), ("java/lang/String", "java/lang/Object")]
def kDe : List MethodName := [⟨"java/lang/RuntimeException", "<init>", "()V"⟩, ⟨"java/lang/RuntimeException", "<init>", "(Ljava/lang/String;)V"⟩, ⟨"java/lang/Exception", "<init>", "()V"⟩, ⟨"java/lang/Exception", "<init>", "(Ljava/lang/String;)V"⟩, ⟨"java/lang/Throwable", "<init>", "()V"⟩, ⟨"java/lang/Throwable", "<init>", "(Ljava/lang/String;)V"⟩, ⟨"java/lang/IndexOutOfBoundsException", "<init>", "()V"⟩, ⟨"java/lang/IndexOutOfBoundsException", "<init>", "(Ljava/lang/String;)V"⟩]
def kSt : List (Nat × String) := [(50, "a tank holds 10 to 200 litres"), (60, "there are 6 farms"), (229, "no such farm"), (71, "a cow's best is 5 to 30"), (76, "the farm has 5 cows"), (82, "a day is 0 to 999"), (90, "1 to 30 days pass, up to the day 999"), (95, "a vat holds 100 to 900 litres"), (97, "there are 4 vats"), (99, "a round is under way"), (101, "no round is under way"), (103, "the round visited this farm"), (106, "100 samples were taken"), (232, "no such vat"), (126, "the vat has no room for all of it"), (133, "the vat would have more than 60 shares"), (147, "no vat has room for what is in the tanker"), (150, "the vat is empty"), (152, "there are 20 batches"), (234, "no such sample"), (166, "a grade is a, b, c or x"), (172, "the sample has a grade"), (236, "no such batch"), (196, "the batch has no such share"), (238, "a sample of the batch has no grade"), (222, "there are no samples"), (225, "no batch has all its grades")]
def kNc : List (String × String) := [("java/lang/IllegalStateException", "java/lang/IllegalArgumentException"), ("java/lang/ArrayIndexOutOfBoundsException", "java/lang/IllegalArgumentException"), ("java/lang/IndexOutOfBoundsException", "java/lang/IllegalArgumentException"), ("java/lang/UnsupportedOperationException", "java/lang/IllegalArgumentException"), ("java/util/NoSuchElementException", "java/lang/IllegalArgumentException"), ("java/lang/ArithmeticException", "java/lang/IllegalArgumentException"), ("java/lang/IllegalArgumentException", "java/lang/IllegalStateException"), ("java/lang/ArrayIndexOutOfBoundsException", "java/lang/IllegalStateException"), ("java/lang/IndexOutOfBoundsException", "java/lang/IllegalStateException"), ("java/lang/UnsupportedOperationException", "java/lang/IllegalStateException"), ("java/util/NoSuchElementException", "java/lang/IllegalStateException"), ("java/lang/ArithmeticException", "java/lang/IllegalStateException"), ("java/lang/IllegalArgumentException", "java/lang/IndexOutOfBoundsException"), ("java/lang/IllegalStateException", "java/lang/IndexOutOfBoundsException"), ("java/lang/UnsupportedOperationException", "java/lang/IndexOutOfBoundsException"), ("java/util/NoSuchElementException", "java/lang/IndexOutOfBoundsException"), ("java/lang/ArithmeticException", "java/lang/IndexOutOfBoundsException"), ("java/lang/IllegalArgumentException", "java/lang/UnsupportedOperationException"), ("java/lang/IllegalStateException", "java/lang/UnsupportedOperationException"), ("java/lang/ArrayIndexOutOfBoundsException", "java/lang/UnsupportedOperationException"), ("java/lang/IndexOutOfBoundsException", "java/lang/UnsupportedOperationException"), ("java/util/NoSuchElementException", "java/lang/UnsupportedOperationException"), ("java/lang/ArithmeticException", "java/lang/UnsupportedOperationException"), ("java/lang/IllegalArgumentException", "java/util/NoSuchElementException"), ("java/lang/IllegalStateException", "java/util/NoSuchElementException"), ("java/lang/ArrayIndexOutOfBoundsException", "java/util/NoSuchElementException"), ("java/lang/IndexOutOfBoundsException", "java/util/NoSuchElementException"), ("java/lang/UnsupportedOperationException", "java/util/NoSuchElementException"), ("java/lang/ArithmeticException", "java/util/NoSuchElementException"), ("java/lang/IllegalArgumentException", "java/lang/ArithmeticException"), ("java/lang/IllegalStateException", "java/lang/ArithmeticException"), ("java/lang/ArrayIndexOutOfBoundsException", "java/lang/ArithmeticException"), ("java/lang/IndexOutOfBoundsException", "java/lang/ArithmeticException"), ("java/lang/UnsupportedOperationException", "java/lang/ArithmeticException"), ("java/util/NoSuchElementException", "java/lang/ArithmeticException")]
theorem kAO_spec {t : FieldType} {U : State} (h : va_AOA t U) : ∃ comp c k, U.vm.findClass (FieldType.array t).toString = some comp ∧ (U.vm.classes.findIdx? fun (x : Class) => match x.kind with | .array component _ => component == comp | _ => false) = some c ∧ U.vm.classes[c]? = some k ∧ k.kind = .array comp (.array t) ∧ U.vm.findClass ("[" ++ (FieldType.array t).toString) = some c := by
  unfold va_AOA Cond.before at h
  simp only [Cond.holds, Cond.value, beq_iff_eq] at h
  cases hc : U.vm.findClass (FieldType.array t).toString with
  | none => simp [hc] at h
  | some comp =>
    simp only [hc, Option.bind_some, Option.bind_eq_some_iff, Option.map_eq_some_iff] at h
    obtain ⟨c, h1, k, h2, h3⟩ := h
    refine ⟨comp, c, k, rfl, h1, h2, ?_⟩
    split at h3
    · rename_i a b hk
      simp only [Bool.and_eq_true, decide_eq_true_eq] at h3
      obtain ⟨h3, h4⟩ := h3
      subst h3
      refine ⟨?_, h4⟩
      rw [hk]
      have h5 := Array.findIdx?_eq_some_iff_getElem.mp h1
      obtain ⟨h6, h7, -⟩ := h5
      rw [Array.getElem?_eq_getElem h6] at h2
      cases h2
      rw [hk] at h7
      simp only [beq_iff_eq] at h7
      rw [h7]
    · cases h3
theorem kidx_bare (vm : Vm) (comp : ClassId) : (vm.bare.classes.findIdx? fun (x : Class) => match x.kind with | .array component _ => component == comp | _ => false) = (vm.classes.findIdx? fun (x : Class) => match x.kind with | .array component _ => component == comp | _ => false) := by
  simp only [Vm.bare, Array.findIdx?_map]
  rfl
theorem va_AOA.moved {t : FieldType} {u U : State} (hvm : u.vm.Alike U.vm) (h : va_AOA t u) : va_AOA t U := by
  obtain ⟨comp, c, k, h1, h2, h3, h4, h5⟩ := kAO_spec h
  obtain ⟨k', hk', he⟩ := hvm.2.2 _ _ h3
  have hi : (U.vm.classes.findIdx? fun (x : Class) => match x.kind with | .array component _ => component == comp | _ => false) = some c := by
    rw [← kidx_bare]
    first | rw [hvm.bare_eq] | rw [← hvm.bare_eq]
    rw [kidx_bare]
    exact h2
  have hkind : k'.kind = .array comp (.array t) := by rw [he]; exact h4
  have f1 : U.vm.findClass (FieldType.array t).toString = some comp := by rw [hvm.findClass]; exact h1
  have f2 : U.vm.findClass ("[" ++ (FieldType.array t).toString) = some c := by rw [hvm.findClass]; exact h5
  unfold va_AOA Cond.before Cond.holds
  simp only [Cond.value]
  rw [f1, Option.bind_some]
  refine (congrArg (fun o : Option Nat => (o.bind (fun c => (U.vm.classes[c]?).map fun (k : Class) => match k.kind with | .array _ ty => decide (ty = FieldType.array t) && decide (U.vm.findClass ("[" ++ (FieldType.array t).toString) = some c) | _ => false) == some true)) hi).trans ?_
  simp [hk', hkind, f2]
def kK (D : va_G) (tys : List (ClassId × FieldType)) (U : State) : Prop := va_K D kCl tys U ∧ (∀ q ∈ kNF, va_Nw (.fieldLinkNest RX2 q.1 q.2.1 q.2.2.1 q.2.2.2 RX2) U) ∧ (∀ q ∈ kNM, va_Nw (.methodLinkNest RX2 q.1 q.2 RX2) U) ∧ (∀ q ∈ kCa, va_Nw (.castable q.1 q.2) U) ∧ (∀ q ∈ kDe, va_Nw (.declares q) U) ∧ (∀ q ∈ kSt, ∃ a, vk_R RX2 q.1 q.2 a U) ∧ (∀ q ∈ kNc, va_Nc q.1 q.2 U) ∧ va_AOA .int U
theorem kK.moved {D : va_G} {tys : List (ClassId × FieldType)} {s U : State} (hW : s.WarmedH U.vm) (h : kK D tys s) : kK D tys U := by
  obtain ⟨h1, h2, h3, h4, h5, h6, h7, h8⟩ := h
  exact ⟨va_K.moved hW.alike h1, fun q hq => va_Nw.warmF hW (h2 q hq), fun q hq => va_Nw.warmM hW (h3 q hq), fun q hq => va_Nw.warmC hW (h4 q hq), fun q hq => va_Nw.warmD hW (h5 q hq), fun q hq => by obtain ⟨a, ha⟩ := h6 q hq; exact ⟨a, vk_R.warm hW ha⟩, fun q hq => va_Nc.moved hW.alike (h7 q hq), va_AOA.moved hW.alike h8⟩
theorem kK.calling {D : va_G} {tys : List (ClassId × FieldType)} {U : State} {g : JFrame} {mk : MethodId} {a : Array Value} (h : kK D tys U) : kK D tys (U.calling g mk a) := kK.moved (s := U) (State.WarmedH.refl U) h
def kZ (A : Nat → Prop) (U : State) (H : Heap) : Prop := vx_Zq Bundle.tN "UNASSIGNED_STACK" Bundle.steD A U H ∧ vx_Zq Bundle.tN "SUPPRESSED_SENTINEL" Bundle.listD A U H
abbrev kTy (k : Nat → ClassId) : List (ClassId × FieldType) := [(k 0, .int), (k 1, .char), (k 2, .boolean), (k 3, .long), (k 4, .double), (k 5, .array .int)]
abbrev kRm (f lo : Nat) : Room := { frames := f, cells := 0, slots := 0, locals := lo }
abbrev kRmc (f lo mc ms : Nat) : Room := { frames := f, cells := mc, slots := ms, locals := lo }
abbrev kws (y : MethodName) (cc : ByteArray) (nL : Nat) (ret : Option FieldType) : List Cond := Cond.code y cc nL ret :: lw_all
abbrev kwsH (y : MethodName) (cc : ByteArray) (nL : Nat) (ret : Option FieldType) (hh : List (Nat × Nat × Nat × Nat)) : List Cond := Cond.codeWith y cc nL ret hh :: lw_all
def gR (D : va_G) (H0 : Heap) : va_W → Heap → List Loc → Prop := fun ws H locs => va_P D kCl ws H ∧ H = H0 ∧ locs = []
def gW (D : va_G) (A : Nat → Prop) (H0 : Heap) : va_W → Heap → List Loc → Prop := fun ws H locs => va_P D kCl ws H ∧ va_D A ws ∧ va_S A H0 H locs
def kE (p : Program) (s : State) (m : MethodId) (args : Array Value) (c : Code) (own : String) (cc : ByteArray) (nL : Nat) (D : va_G) (tys : List (ClassId × FieldType)) (G : va_W → Heap → List Loc → Prop) : Prop :=
  p.tables.exec = Jvm.exec ∧ c.code = cc ∧ c.maxLocals = nL ∧ s.vm.findClass own = some m.cls ∧ (∀ w ∈ lw_all, w.before args s = true) ∧ kK D tys s ∧ (∀ ws H locs, G ws H locs → va_P D kCl ws H)
def kJ (p : Program) (l : Launch) (e : Env) (R : Room) (s : State) (m : MethodId) (args : Array Value) (below : List Frame) (meth : Method) (c : Code) (G : va_W → Heap → List Loc → Prop) (nL cells slots : Nat) (Q : State → Prop) (ws : va_W) (pc : Nat) (lv : List (Nat × Value)) (st : List Value) : Prop :=
  ∀ (H : Heap) (locs : List Loc) (ls : Array Slot), G ws H locs → lv_has ls nL lv → W p l e R s m args below meth c H locs cells slots Q (F0 m pc ls st)
def kX (p : Program) (l : Launch) (e : Env) (R : Room) (s : State) (m : MethodId) (args : Array Value) (below : List Frame) (meth : Method) (c : Code) (G : va_W → Heap → List Loc → Prop) (nL cells slots : Nat) (Q : State → Prop) (ws : va_W) (pc : Nat) (lv : List (Nat × Value)) (rest : List Value) (E : String) : Prop :=
  ∀ (H : Heap) (locs : List Loc) (ls : Array Slot) (q : Addr) (ce : Cell), G ws H locs → lv_has ls nL lv → H[q]? = some ce → ce.vm = .none → s.vm.findClass E = some ce.cls → vx_W p l e R s m args below meth c H locs cells slots Q (F0 m pc ls rest) q
def kCF (y : MethodName) (bytes : ByteArray) (maxL : Nat) (ret : Option FieldType) (n : Nat) : Prop := Cond.code y bytes maxL ret ∈ lw_all ∧ Cond.instanceMethod y ∈ lw_all ∧ Cond.selects y.cls y y ∈ lw_all ∧ Cond.initialized y.cls ∈ lw_all ∧ (y.cls ≠ "java/lang/invoke/MethodHandle" ∧ y.cls ≠ "java/lang/invoke/VarHandle") ∧ (parseMethodDescriptor y.desc).map (fun d => d.parameters.length) = some n
def kCS (y : MethodName) (bytes : ByteArray) (maxL : Nat) (ret : Option FieldType) (n : Nat) : Prop := Cond.code y bytes maxL ret ∈ lw_all ∧ Cond.static y ∈ lw_all ∧ Cond.initialized y.cls ∈ lw_all ∧ (y.cls ≠ "java/lang/invoke/MethodHandle" ∧ y.cls ≠ "java/lang/invoke/VarHandle") ∧ (parseMethodDescriptor y.desc).map (fun d => d.parameters.length) = some n
def kCH (y : MethodName) (bytes : ByteArray) (maxL : Nat) (ret : Option FieldType) (hh : List (Nat × Nat × Nat × Nat)) (n : Nat) : Prop := Cond.codeWith y bytes maxL ret hh ∈ lw_all ∧ Cond.static y ∈ lw_all ∧ Cond.initialized y.cls ∈ lw_all ∧ (y.cls ≠ "java/lang/invoke/MethodHandle" ∧ y.cls ≠ "java/lang/invoke/VarHandle") ∧ (parseMethodDescriptor y.desc).map (fun d => d.parameters.length) = some n
def kCI (y : MethodName) (bytes : ByteArray) (maxL : Nat) (n : Nat) : Prop := Cond.code y bytes maxL none ∈ lw_all ∧ Cond.instanceMethod y ∈ lw_all ∧ Cond.initialized y.cls ∈ lw_all ∧ y.name = "<init>" ∧ (y.cls ≠ "java/lang/invoke/MethodHandle" ∧ y.cls ≠ "java/lang/invoke/VarHandle") ∧ (parseMethodDescriptor y.desc).map (fun d => d.parameters.length) = some n
theorem kws_in {y : MethodName} {bytes : ByteArray} {maxL : Nat} {ret : Option FieldType} (h : Cond.code y bytes maxL ret ∈ lw_all) : GoodIn lw_all (kws y bytes maxL ret) := fun w hw => (List.mem_cons.mp hw).elim (fun q => by rw [q]; exact lw_all_good _ h) (fun q => lw_all_good w q)
theorem kwsH_in {y : MethodName} {bytes : ByteArray} {maxL : Nat} {ret : Option FieldType} {hh : List (Nat × Nat × Nat × Nat)} (h : Cond.codeWith y bytes maxL ret hh ∈ lw_all) : GoodIn lw_all (kwsH y bytes maxL ret hh) := fun w hw => (List.mem_cons.mp hw).elim (fun q => by rw [q]; exact lw_all_good _ h) (fun q => lw_all_good w q)
theorem kV_in {own : String} {idx : Nat} {y : MethodName} {bytes : ByteArray} {maxL n : Nat} {ret : Option FieldType} (F : kCF y bytes maxL ret n) (hl : Cond.methodLink own idx y ∈ lw_all) : GoodIn lw_all (wsV own idx y.cls y (kws y bytes maxL ret)) := by
  intro w hw
  unfold wsV at hw
  rcases List.mem_append.mp hw with h | h
  · simp only [List.mem_cons, List.not_mem_nil, or_false] at h
    rcases h with rfl | rfl | rfl | rfl
    · exact lw_all_good _ hl
    · exact lw_all_good _ F.2.1
    · exact lw_all_good _ F.2.2.1
    · exact lw_all_good _ F.2.2.2.1
  · exact kws_in F.1 w h
theorem kS_in {own : String} {idx : Nat} {y : MethodName} {bytes : ByteArray} {maxL n : Nat} {ret : Option FieldType} (F : kCS y bytes maxL ret n) (hl : Cond.methodLink own idx y ∈ lw_all) : GoodIn lw_all (va_wsS own idx y (kws y bytes maxL ret)) := by
  intro w hw
  unfold va_wsS at hw
  rcases List.mem_append.mp hw with h | h
  · simp only [List.mem_cons, List.not_mem_nil, or_false] at h
    rcases h with rfl | rfl | rfl
    · exact lw_all_good _ hl
    · exact lw_all_good _ F.2.1
    · exact lw_all_good _ F.2.2.1
  · exact kws_in F.1 w h
theorem kH_in {own : String} {idx : Nat} {y : MethodName} {bytes : ByteArray} {maxL n : Nat} {ret : Option FieldType} {hh : List (Nat × Nat × Nat × Nat)} (F : kCH y bytes maxL ret hh n) (hl : Cond.methodLink own idx y ∈ lw_all) : GoodIn lw_all (va_wsS own idx y (kwsH y bytes maxL ret hh)) := by
  intro w hw
  unfold va_wsS at hw
  rcases List.mem_append.mp hw with h | h
  · simp only [List.mem_cons, List.not_mem_nil, or_false] at h
    rcases h with rfl | rfl | rfl
    · exact lw_all_good _ hl
    · exact lw_all_good _ F.2.1
    · exact lw_all_good _ F.2.2.1
  · exact kwsH_in F.1 w h
/-! contracts -/
def kQr (v : Option Value) : Array Value → State → Outcome → State → Prop := fun _ st o t => o = .returned v ∧ t.heap = st.heap
def kQw (v : Option Value) (D : va_G) (W0 W1 : va_W) (sz : Nat) : Array Value → State → Outcome → State → Prop := fun _ st o t => o = .returned v ∧ va_P D kCl W1 t.heap ∧ va_D (va_A W0 sz) W1 ∧ va_F (va_A W0 sz) st t
def mR (l : Launch) (y : MethodName) (bytes : ByteArray) (nL : Nat) (ret : Option FieldType) (f lo : Nat) (D : va_G) (tys : List (ClassId × FieldType)) (av : List Value) (W0 : va_W) (v : Option Value) : Prop := Met l y (kws y bytes nL ret) (kRm f lo) (va_Pc av (fun U => va_P D kCl W0 U.heap ∧ kK D tys U)) (kQr v) 0 0 (fun _ => False)
def mW (l : Launch) (y : MethodName) (bytes : ByteArray) (nL : Nat) (ret : Option FieldType) (f lo mc ms : Nat) (D : va_G) (tys : List (ClassId × FieldType)) (av : List Value) (W0 : va_W) (v : Option Value) (W1 : va_W) : Prop := ∀ sz : Nat, Met l y (kws y bytes nL ret) (kRmc f lo mc ms) (va_Pc av (fun U => U.heap.size = sz ∧ va_P D kCl W0 U.heap ∧ kK D tys U ∧ va_D (fun _ => True) W0)) (kQw v D W0 W1 sz) mc ms (va_A W0 sz)
def kXc (out : (Option Value × va_W) ⊕ String) (D : va_G) (W0 : va_W) (sz : Nat) : String → State → State → Prop := fun E st t => out = .inr E ∧ va_P D kCl W0 t.heap ∧ va_D (va_A W0 sz) W0 ∧ va_F (va_A W0 sz) st t
def kXq (out : (Option Value × va_W) ⊕ String) (D : va_G) (W0 : va_W) (sz : Nat) : Array Value → State → Outcome → State → Prop := fun a st o t => ∃ v W1, out = .inl (v, W1) ∧ kQw v D W0 W1 sz a st o t
def kPx (av : List Value) (D : va_G) (tys : List (ClassId × FieldType)) (W0 : va_W) (sz : Nat) : Array Value → State → Prop := va_Pc av (fun U => U.heap.size = sz ∧ va_P D kCl W0 U.heap ∧ kK D tys U ∧ va_D (fun _ => True) W0 ∧ kZ (va_A W0 sz) U U.heap)
def mX (l : Launch) (y : MethodName) (bytes : ByteArray) (nL : Nat) (ret : Option FieldType) (f lo mc ms : Nat) (D : va_G) (tys : List (ClassId × FieldType)) (av : List Value) (W0 : va_W) (out : (Option Value × va_W) ⊕ String) : Prop := ∀ sz : Nat, vx_Met l y (kws y bytes nL ret) (kRmc f lo mc ms) (kPx av D tys W0 sz) (kXq out D W0 sz) (kXc out D W0 sz) mc ms (va_A W0 sz)
/-- a wrapper with a table of its own: it only returns -/
def mH (l : Launch) (y : MethodName) (bytes : ByteArray) (nL : Nat) (ret : Option FieldType) (hh : List (Nat × Nat × Nat × Nat)) (f lo mc ms : Nat) (D : va_G) (tys : List (ClassId × FieldType)) (av : List Value) (W0 : va_W) (out : (Option Value × va_W) ⊕ String) : Prop := ∀ sz : Nat, vx_Met l y (kwsH y bytes nL ret hh) (kRmc f lo mc ms) (kPx av D tys W0 sz) (kXq out D W0 sz) (kXc out D W0 sz) mc ms (va_A W0 sz)

section KR
variable {p : Program} {l : Launch} {e : Env} {R : Room} {s : State} {m : MethodId} {args : Array Value} {below : List Frame} {meth : Method} {c : Code} {cells slots : Nat} {Q : State → Prop}
variable {cc : ByteArray} {own : String} {nL pc : Nat} {D : va_G} {tys : List (ClassId × FieldType)} {G : va_W → Heap → List Loc → Prop} {ws : va_W} {lv : List (Nat × Value)} {st : List Value}
theorem k_iconst (E : kE p s m args c own cc nL D tys G) {n : Int} {v : Int32} (hv : Int32.ofInt n = v) (d : decode cc pc = .ok (.iconst n, 1)) (K : kJ p l e R s m args below meth c G nL cells slots Q ws (pc + 1) lv (.int v :: st)) : kJ p l e R s m args below meth c G nL cells slots Q ws pc lv st := fun H locs ls hG hl => lv_iconst E.1 E.2.1 d hv (K H locs ls hG hl)
theorem k_bipush (E : kE p s m args c own cc nL D tys G) {n : Int} {v : Int32} (hv : (Int8.ofInt n).toInt32 = v) (d : decode cc pc = .ok (.bipush n, 2)) (K : kJ p l e R s m args below meth c G nL cells slots Q ws (pc + 2) lv (.int v :: st)) : kJ p l e R s m args below meth c G nL cells slots Q ws pc lv st := fun H locs ls hG hl => lv_bipush E.1 E.2.1 d hv (K H locs ls hG hl)
theorem k_sipush (E : kE p s m args c own cc nL D tys G) {n : Int} {v : Int32} (hv : (Int16.ofInt n).toInt32 = v) (d : decode cc pc = .ok (.sipush n, 3)) (K : kJ p l e R s m args below meth c G nL cells slots Q ws (pc + 3) lv (.int v :: st)) : kJ p l e R s m args below meth c G nL cells slots Q ws pc lv st := fun H locs ls hG hl => lv_sipush E.1 E.2.1 d hv (K H locs ls hG hl)
theorem k_lconst (E : kE p s m args c own cc nL D tys G) {n : Fin 2} {v : Int64} (hv : Int64.ofNat (n : Nat) = v) (d : decode cc pc = .ok (.lconst n, 1)) (K : kJ p l e R s m args below meth c G nL cells slots Q ws (pc + 1) lv (.long v :: st)) : kJ p l e R s m args below meth c G nL cells slots Q ws pc lv st := fun H locs ls hG hl => lv_lconst E.1 E.2.1 d hv (K H locs ls hG hl)
theorem k_iload_n (E : kE p s m args c own cc nL D tys G) {k : Fin 4} {i : Nat} {x : Int32} (q : Nat) (hi : (k : Nat) = i) (hk : lv[q]? = some (i, .int x)) (d : decode cc pc = .ok (.iload_n k, 1)) (K : kJ p l e R s m args below meth c G nL cells slots Q ws (pc + 1) lv (.int x :: st)) : kJ p l e R s m args below meth c G nL cells slots Q ws pc lv st := fun H locs ls hG hl => lv_iload_n E.1 E.2.1 d hi (lv_at hl q hk) (K H locs ls hG hl)
theorem k_iload (E : kE p s m args c own cc nL D tys G) {i : Nat} {x : Int32} (q : Nat) (hk : lv[q]? = some (i, .int x)) (d : decode cc pc = .ok (.iload i, 2)) (K : kJ p l e R s m args below meth c G nL cells slots Q ws (pc + 2) lv (.int x :: st)) : kJ p l e R s m args below meth c G nL cells slots Q ws pc lv st := fun H locs ls hG hl => lv_iload E.1 E.2.1 d (lv_at hl q hk) (K H locs ls hG hl)
theorem k_istore_n (E : kE p s m args c own cc nL D tys G) {k : Fin 4} {i : Nat} {x : Int32} {lv' : List (Nat × Value)} (hi : (k : Nat) = i) (hn : i < nL) (hv : (i, Value.int x) :: lv.filter (fun q => !(q.1 == i) && !(q.1 + 1 == i && q.2.category == 2)) = lv') (d : decode cc pc = .ok (.istore_n k, 1)) (K : kJ p l e R s m args below meth c G nL cells slots Q ws (pc + 1) lv' st) : kJ p l e R s m args below meth c G nL cells slots Q ws pc lv (.int x :: st) := fun H locs ls hG hl => lv_istore_n E.1 E.2.1 d hi hl hn hv (fun ls' hl' => K H locs ls' hG hl')
theorem k_istore (E : kE p s m args c own cc nL D tys G) {i : Nat} {x : Int32} {lv' : List (Nat × Value)} (hn : i < nL) (hv : (i, Value.int x) :: lv.filter (fun q => !(q.1 == i) && !(q.1 + 1 == i && q.2.category == 2)) = lv') (d : decode cc pc = .ok (.istore i, 2)) (K : kJ p l e R s m args below meth c G nL cells slots Q ws (pc + 2) lv' st) : kJ p l e R s m args below meth c G nL cells slots Q ws pc lv (.int x :: st) := fun H locs ls hG hl => lv_istore E.1 E.2.1 d hl hn hv (fun ls' hl' => K H locs ls' hG hl')
theorem k_lload_n (E : kE p s m args c own cc nL D tys G) {k : Fin 4} {i : Nat} {x : Int64} (q : Nat) (hi : (k : Nat) = i) (hk : lv[q]? = some (i, .long x)) (d : decode cc pc = .ok (.lload_n k, 1)) (K : kJ p l e R s m args below meth c G nL cells slots Q ws (pc + 1) lv (.long x :: st)) : kJ p l e R s m args below meth c G nL cells slots Q ws pc lv st := fun H locs ls hG hl => lv_lload_n E.1 E.2.1 d hi (lv_at hl q hk) (K H locs ls hG hl)
theorem k_lload (E : kE p s m args c own cc nL D tys G) {i : Nat} {x : Int64} (q : Nat) (hk : lv[q]? = some (i, .long x)) (d : decode cc pc = .ok (.lload i, 2)) (K : kJ p l e R s m args below meth c G nL cells slots Q ws (pc + 2) lv (.long x :: st)) : kJ p l e R s m args below meth c G nL cells slots Q ws pc lv st := fun H locs ls hG hl => lv_lload E.1 E.2.1 d (lv_at hl q hk) (K H locs ls hG hl)
theorem k_lstore_n (E : kE p s m args c own cc nL D tys G) {k : Fin 4} {i : Nat} {x : Int64} {lv' : List (Nat × Value)} (hi : (k : Nat) = i) (hn : i + 1 < nL) (hv : (i, Value.long x) :: lv.filter (fun q => !(q.1 == i) && (!(q.1 == i + 1) && !(q.1 + 1 == i && q.2.category == 2))) = lv') (d : decode cc pc = .ok (.lstore_n k, 1)) (K : kJ p l e R s m args below meth c G nL cells slots Q ws (pc + 1) lv' st) : kJ p l e R s m args below meth c G nL cells slots Q ws pc lv (.long x :: st) := fun H locs ls hG hl => lv_lstore_n E.1 E.2.1 d hi hl hn hv (fun ls' hl' => K H locs ls' hG hl')
theorem k_lstore (E : kE p s m args c own cc nL D tys G) {i : Nat} {x : Int64} {lv' : List (Nat × Value)} (hn : i + 1 < nL) (hv : (i, Value.long x) :: lv.filter (fun q => !(q.1 == i) && (!(q.1 == i + 1) && !(q.1 + 1 == i && q.2.category == 2))) = lv') (d : decode cc pc = .ok (.lstore i, 2)) (K : kJ p l e R s m args below meth c G nL cells slots Q ws (pc + 2) lv' st) : kJ p l e R s m args below meth c G nL cells slots Q ws pc lv (.long x :: st) := fun H locs ls hG hl => lv_lstore E.1 E.2.1 d hl hn hv (fun ls' hl' => K H locs ls' hG hl')
theorem k_fload (E : kE p s m args c own cc nL D tys G) {i : Nat} {x : UInt32} (q : Nat) (hk : lv[q]? = some (i, .float x)) (d : decode cc pc = .ok (.fload i, 2)) (K : kJ p l e R s m args below meth c G nL cells slots Q ws (pc + 2) lv (.float x :: st)) : kJ p l e R s m args below meth c G nL cells slots Q ws pc lv st := fun H locs ls hG hl => lv_fload E.1 E.2.1 d (lv_at hl q hk) (K H locs ls hG hl)
theorem k_fstore_n (E : kE p s m args c own cc nL D tys G) {k : Fin 4} {i : Nat} {x : UInt32} {lv' : List (Nat × Value)} (hi : (k : Nat) = i) (hn : i < nL) (hv : (i, Value.float x) :: lv.filter (fun q => !(q.1 == i) && !(q.1 + 1 == i && q.2.category == 2)) = lv') (d : decode cc pc = .ok (.fstore_n k, 1)) (K : kJ p l e R s m args below meth c G nL cells slots Q ws (pc + 1) lv' st) : kJ p l e R s m args below meth c G nL cells slots Q ws pc lv (.float x :: st) := fun H locs ls hG hl => lv_fstore_n E.1 E.2.1 d hi hl hn hv (fun ls' hl' => K H locs ls' hG hl')
theorem k_fstore (E : kE p s m args c own cc nL D tys G) {i : Nat} {x : UInt32} {lv' : List (Nat × Value)} (hn : i < nL) (hv : (i, Value.float x) :: lv.filter (fun q => !(q.1 == i) && !(q.1 + 1 == i && q.2.category == 2)) = lv') (d : decode cc pc = .ok (.fstore i, 2)) (K : kJ p l e R s m args below meth c G nL cells slots Q ws (pc + 2) lv' st) : kJ p l e R s m args below meth c G nL cells slots Q ws pc lv (.float x :: st) := fun H locs ls hG hl => lv_fstore E.1 E.2.1 d hl hn hv (fun ls' hl' => K H locs ls' hG hl')
theorem k_dload_n (E : kE p s m args c own cc nL D tys G) {k : Fin 4} {i : Nat} {x : UInt64} (q : Nat) (hi : (k : Nat) = i) (hk : lv[q]? = some (i, .double x)) (d : decode cc pc = .ok (.dload_n k, 1)) (K : kJ p l e R s m args below meth c G nL cells slots Q ws (pc + 1) lv (.double x :: st)) : kJ p l e R s m args below meth c G nL cells slots Q ws pc lv st := fun H locs ls hG hl => lv_dload_n E.1 E.2.1 d hi (lv_at hl q hk) (K H locs ls hG hl)
theorem k_dload (E : kE p s m args c own cc nL D tys G) {i : Nat} {x : UInt64} (q : Nat) (hk : lv[q]? = some (i, .double x)) (d : decode cc pc = .ok (.dload i, 2)) (K : kJ p l e R s m args below meth c G nL cells slots Q ws (pc + 2) lv (.double x :: st)) : kJ p l e R s m args below meth c G nL cells slots Q ws pc lv st := fun H locs ls hG hl => lv_dload E.1 E.2.1 d (lv_at hl q hk) (K H locs ls hG hl)
theorem k_dstore_n (E : kE p s m args c own cc nL D tys G) {k : Fin 4} {i : Nat} {x : UInt64} {lv' : List (Nat × Value)} (hi : (k : Nat) = i) (hn : i + 1 < nL) (hv : (i, Value.double x) :: lv.filter (fun q => !(q.1 == i) && (!(q.1 == i + 1) && !(q.1 + 1 == i && q.2.category == 2))) = lv') (d : decode cc pc = .ok (.dstore_n k, 1)) (K : kJ p l e R s m args below meth c G nL cells slots Q ws (pc + 1) lv' st) : kJ p l e R s m args below meth c G nL cells slots Q ws pc lv (.double x :: st) := fun H locs ls hG hl => lv_dstore_n E.1 E.2.1 d hi hl hn hv (fun ls' hl' => K H locs ls' hG hl')
theorem k_dstore (E : kE p s m args c own cc nL D tys G) {i : Nat} {x : UInt64} {lv' : List (Nat × Value)} (hn : i + 1 < nL) (hv : (i, Value.double x) :: lv.filter (fun q => !(q.1 == i) && (!(q.1 == i + 1) && !(q.1 + 1 == i && q.2.category == 2))) = lv') (d : decode cc pc = .ok (.dstore i, 2)) (K : kJ p l e R s m args below meth c G nL cells slots Q ws (pc + 2) lv' st) : kJ p l e R s m args below meth c G nL cells slots Q ws pc lv (.double x :: st) := fun H locs ls hG hl => lv_dstore E.1 E.2.1 d hl hn hv (fun ls' hl' => K H locs ls' hG hl')
theorem k_aload_n (E : kE p s m args c own cc nL D tys G) {k : Fin 4} {i : Nat} {x : Nat} (q : Nat) (hi : (k : Nat) = i) (hk : lv[q]? = some (i, .ref x)) (d : decode cc pc = .ok (.aload_n k, 1)) (K : kJ p l e R s m args below meth c G nL cells slots Q ws (pc + 1) lv (.ref x :: st)) : kJ p l e R s m args below meth c G nL cells slots Q ws pc lv st := fun H locs ls hG hl => lv_aload_n E.1 E.2.1 d hi (lv_at hl q hk) (K H locs ls hG hl)
theorem k_aload (E : kE p s m args c own cc nL D tys G) {i : Nat} {x : Nat} (q : Nat) (hk : lv[q]? = some (i, .ref x)) (d : decode cc pc = .ok (.aload i, 2)) (K : kJ p l e R s m args below meth c G nL cells slots Q ws (pc + 2) lv (.ref x :: st)) : kJ p l e R s m args below meth c G nL cells slots Q ws pc lv st := fun H locs ls hG hl => lv_aload E.1 E.2.1 d (lv_at hl q hk) (K H locs ls hG hl)
theorem k_astore_n (E : kE p s m args c own cc nL D tys G) {k : Fin 4} {i : Nat} {x : Nat} {lv' : List (Nat × Value)} (hi : (k : Nat) = i) (hn : i < nL) (hv : (i, Value.ref x) :: lv.filter (fun q => !(q.1 == i) && !(q.1 + 1 == i && q.2.category == 2)) = lv') (d : decode cc pc = .ok (.astore_n k, 1)) (K : kJ p l e R s m args below meth c G nL cells slots Q ws (pc + 1) lv' st) : kJ p l e R s m args below meth c G nL cells slots Q ws pc lv (.ref x :: st) := fun H locs ls hG hl => lv_astore_n E.1 E.2.1 d hi hl hn hv (fun ls' hl' => K H locs ls' hG hl')
theorem k_astore (E : kE p s m args c own cc nL D tys G) {i : Nat} {x : Nat} {lv' : List (Nat × Value)} (hn : i < nL) (hv : (i, Value.ref x) :: lv.filter (fun q => !(q.1 == i) && !(q.1 + 1 == i && q.2.category == 2)) = lv') (d : decode cc pc = .ok (.astore i, 2)) (K : kJ p l e R s m args below meth c G nL cells slots Q ws (pc + 2) lv' st) : kJ p l e R s m args below meth c G nL cells slots Q ws pc lv (.ref x :: st) := fun H locs ls hG hl => lv_astore E.1 E.2.1 d hl hn hv (fun ls' hl' => K H locs ls' hG hl')
theorem k_iinc (E : kE p s m args c own cc nL D tys G) {i q : Nat} {n : Int} {x v : Int32} {lv' : List (Nat × Value)} (hk : lv[q]? = some (i, .int x)) (hv : x + Int32.ofInt n = v) (hn : i < nL) (hw : (i, Value.int v) :: lv.filter (fun q => !(q.1 == i) && !(q.1 + 1 == i && q.2.category == 2)) = lv') (d : decode cc pc = .ok (.iinc i n, 3)) (K : kJ p l e R s m args below meth c G nL cells slots Q ws (pc + 3) lv' st) : kJ p l e R s m args below meth c G nL cells slots Q ws pc lv st := fun H locs ls hG hl => lv_iinc E.1 E.2.1 d hl hk hv hn hw (fun ls' hl' => K H locs ls' hG hl')
theorem k_iadd (E : kE p s m args c own cc nL D tys G) {x y : Int32} (d : decode cc pc = .ok (.iadd, 1)) (K : kJ p l e R s m args below meth c G nL cells slots Q ws (pc + 1) lv (.int (x + y) :: st)) : kJ p l e R s m args below meth c G nL cells slots Q ws pc lv (.int y :: .int x :: st) := fun H locs ls hG hl => lv_iadd E.1 E.2.1 d (K H locs ls hG hl)
theorem k_isub (E : kE p s m args c own cc nL D tys G) {x y : Int32} (d : decode cc pc = .ok (.isub, 1)) (K : kJ p l e R s m args below meth c G nL cells slots Q ws (pc + 1) lv (.int (x - y) :: st)) : kJ p l e R s m args below meth c G nL cells slots Q ws pc lv (.int y :: .int x :: st) := fun H locs ls hG hl => lv_isub E.1 E.2.1 d (K H locs ls hG hl)
theorem k_imul (E : kE p s m args c own cc nL D tys G) {x y : Int32} (d : decode cc pc = .ok (.imul, 1)) (K : kJ p l e R s m args below meth c G nL cells slots Q ws (pc + 1) lv (.int (x * y) :: st)) : kJ p l e R s m args below meth c G nL cells slots Q ws pc lv (.int y :: .int x :: st) := fun H locs ls hG hl => lv_imul E.1 E.2.1 d (K H locs ls hG hl)
theorem k_iand (E : kE p s m args c own cc nL D tys G) {x y : Int32} (d : decode cc pc = .ok (.iand, 1)) (K : kJ p l e R s m args below meth c G nL cells slots Q ws (pc + 1) lv (.int (x &&& y) :: st)) : kJ p l e R s m args below meth c G nL cells slots Q ws pc lv (.int y :: .int x :: st) := fun H locs ls hG hl => lv_iand E.1 E.2.1 d (K H locs ls hG hl)
theorem k_ladd (E : kE p s m args c own cc nL D tys G) {x y : Int64} (d : decode cc pc = .ok (.ladd, 1)) (K : kJ p l e R s m args below meth c G nL cells slots Q ws (pc + 1) lv (.long (x + y) :: st)) : kJ p l e R s m args below meth c G nL cells slots Q ws pc lv (.long y :: .long x :: st) := fun H locs ls hG hl => lv_ladd E.1 E.2.1 d (K H locs ls hG hl)
theorem k_lsub (E : kE p s m args c own cc nL D tys G) {x y : Int64} (d : decode cc pc = .ok (.lsub, 1)) (K : kJ p l e R s m args below meth c G nL cells slots Q ws (pc + 1) lv (.long (x - y) :: st)) : kJ p l e R s m args below meth c G nL cells slots Q ws pc lv (.long y :: .long x :: st) := fun H locs ls hG hl => lv_lsub E.1 E.2.1 d (K H locs ls hG hl)
theorem k_ineg (E : kE p s m args c own cc nL D tys G) {x : Int32} (d : decode cc pc = .ok (.ineg, 1)) (K : kJ p l e R s m args below meth c G nL cells slots Q ws (pc + 1) lv (.int (-x) :: st)) : kJ p l e R s m args below meth c G nL cells slots Q ws pc lv (.int x :: st) := fun H locs ls hG hl => lv_ineg E.1 E.2.1 d (K H locs ls hG hl)
theorem k_idiv (E : kE p s m args c own cc nL D tys G) {x y : Int32} (hne : ¬ y = 0) (d : decode cc pc = .ok (.idiv, 1)) (K : kJ p l e R s m args below meth c G nL cells slots Q ws (pc + 1) lv (.int (x / y) :: st)) : kJ p l e R s m args below meth c G nL cells slots Q ws pc lv (.int y :: .int x :: st) := fun H locs ls hG hl => lv_idiv E.1 E.2.1 d hne (K H locs ls hG hl)
theorem k_irem (E : kE p s m args c own cc nL D tys G) {x y : Int32} (hne : ¬ y = 0) (d : decode cc pc = .ok (.irem, 1)) (K : kJ p l e R s m args below meth c G nL cells slots Q ws (pc + 1) lv (.int (x - x / y * y) :: st)) : kJ p l e R s m args below meth c G nL cells slots Q ws pc lv (.int y :: .int x :: st) := fun H locs ls hG hl => lv_irem E.1 E.2.1 d hne (K H locs ls hG hl)
theorem k_i2l (E : kE p s m args c own cc nL D tys G) {x : Int32} {v : Int64} (hv : x.toInt64 = v) (d : decode cc pc = .ok (.i2l, 1)) (K : kJ p l e R s m args below meth c G nL cells slots Q ws (pc + 1) lv (.long v :: st)) : kJ p l e R s m args below meth c G nL cells slots Q ws pc lv (.int x :: st) := fun H locs ls hG hl => lv_i2l E.1 E.2.1 d hv (K H locs ls hG hl)
theorem k_i2c (E : kE p s m args c own cc nL D tys G) {x v : Int32} (hv : (x.toUInt32 % 65536).toInt32 = v) (d : decode cc pc = .ok (.i2c, 1)) (K : kJ p l e R s m args below meth c G nL cells slots Q ws (pc + 1) lv (.int v :: st)) : kJ p l e R s m args below meth c G nL cells slots Q ws pc lv (.int x :: st) := fun H locs ls hG hl => lv_i2c E.1 E.2.1 d hv (K H locs ls hG hl)
theorem k_i2f (E : kE p s m args c own cc nL D tys G) {x : Int32} (d : decode cc pc = .ok (.i2f, 1)) (K : kJ p l e R s m args below meth c G nL cells slots Q ws (pc + 1) lv (.float (FP.i2f x) :: st)) : kJ p l e R s m args below meth c G nL cells slots Q ws pc lv (.int x :: st) := fun H locs ls hG hl => lv_i2f E.1 E.2.1 d (K H locs ls hG hl)
theorem k_i2d (E : kE p s m args c own cc nL D tys G) {x : Int32} (d : decode cc pc = .ok (.i2d, 1)) (K : kJ p l e R s m args below meth c G nL cells slots Q ws (pc + 1) lv (.double (FP.i2d x) :: st)) : kJ p l e R s m args below meth c G nL cells slots Q ws pc lv (.int x :: st) := fun H locs ls hG hl => lv_i2d E.1 E.2.1 d (K H locs ls hG hl)
theorem k_l2d (E : kE p s m args c own cc nL D tys G) {x : Int64} (d : decode cc pc = .ok (.l2d, 1)) (K : kJ p l e R s m args below meth c G nL cells slots Q ws (pc + 1) lv (.double (FP.l2d x) :: st)) : kJ p l e R s m args below meth c G nL cells slots Q ws pc lv (.long x :: st) := fun H locs ls hG hl => lv_l2d E.1 E.2.1 d (K H locs ls hG hl)
theorem k_f2d (E : kE p s m args c own cc nL D tys G) {x : UInt32} (hne : vf_n64 (FP.f2d x)) (d : decode cc pc = .ok (.f2d, 1)) (K : kJ p l e R s m args below meth c G nL cells slots Q ws (pc + 1) lv (.double (FP.f2d x) :: st)) : kJ p l e R s m args below meth c G nL cells slots Q ws pc lv (.float x :: st) := fun H locs ls hG hl => lv_f2d E.1 E.2.1 d hne (K H locs ls hG hl)
theorem k_fdiv (E : kE p s m args c own cc nL D tys G) {x y : UInt32} (hne : vf_n32 (FP.fdiv x y)) (d : decode cc pc = .ok (.fdiv, 1)) (K : kJ p l e R s m args below meth c G nL cells slots Q ws (pc + 1) lv (.float (FP.fdiv x y) :: st)) : kJ p l e R s m args below meth c G nL cells slots Q ws pc lv (.float y :: .float x :: st) := fun H locs ls hG hl => lv_fdiv E.1 E.2.1 d hne (K H locs ls hG hl)
theorem k_ddiv (E : kE p s m args c own cc nL D tys G) {x y : UInt64} (hne : vf_n64 (FP.ddiv x y)) (d : decode cc pc = .ok (.ddiv, 1)) (K : kJ p l e R s m args below meth c G nL cells slots Q ws (pc + 1) lv (.double (FP.ddiv x y) :: st)) : kJ p l e R s m args below meth c G nL cells slots Q ws pc lv (.double y :: .double x :: st) := fun H locs ls hG hl => lv_ddiv E.1 E.2.1 d hne (K H locs ls hG hl)
theorem k_fcmp (E : kE p s m args c own cc nL D tys G) {x y : UInt32} {op : CmpOp} (d : decode cc pc = .ok (.fcmp op, 1)) (K : kJ p l e R s m args below meth c G nL cells slots Q ws (pc + 1) lv (.int (Op.cmpValue (FP.fcmp x y) op) :: st)) : kJ p l e R s m args below meth c G nL cells slots Q ws pc lv (.float y :: .float x :: st) := fun H locs ls hG hl => lv_fcmp E.1 E.2.1 d (K H locs ls hG hl)
theorem k_dcmp (E : kE p s m args c own cc nL D tys G) {x y : UInt64} {op : CmpOp} (d : decode cc pc = .ok (.dcmp op, 1)) (K : kJ p l e R s m args below meth c G nL cells slots Q ws (pc + 1) lv (.int (Op.cmpValue (FP.dcmp x y) op) :: st)) : kJ p l e R s m args below meth c G nL cells slots Q ws pc lv (.double y :: .double x :: st) := fun H locs ls hG hl => lv_dcmp E.1 E.2.1 d (K H locs ls hG hl)
theorem k_lcmp (E : kE p s m args c own cc nL D tys G) {x y : Int64} (d : decode cc pc = .ok (.lcmp, 1)) (K : kJ p l e R s m args below meth c G nL cells slots Q ws (pc + 1) lv (.int (lg_cmp x y) :: st)) : kJ p l e R s m args below meth c G nL cells slots Q ws pc lv (.long y :: .long x :: st) := fun H locs ls hG hl => W.lcmp E.1 E.2.1 d (K H locs ls hG hl)
theorem k_dup (E : kE p s m args c own cc nL D tys G) {va : Value} (hva : va.category = 1) (d : decode cc pc = .ok (.dup, 1)) (K : kJ p l e R s m args below meth c G nL cells slots Q ws (pc + 1) lv (va :: va :: st)) : kJ p l e R s m args below meth c G nL cells slots Q ws pc lv (va :: st) := fun H locs ls hG hl => lv_dup E.1 E.2.1 d hva (K H locs ls hG hl)
theorem k_pop (E : kE p s m args c own cc nL D tys G) {va : Value} (hva : va.category = 1) (d : decode cc pc = .ok (.pop, 1)) (K : kJ p l e R s m args below meth c G nL cells slots Q ws (pc + 1) lv st) : kJ p l e R s m args below meth c G nL cells slots Q ws pc lv (va :: st) := fun H locs ls hG hl => lv_pop E.1 E.2.1 d hva (K H locs ls hG hl)
theorem k_dup_x1 (E : kE p s m args c own cc nL D tys G) {va vb : Value} (hva : va.category = 1) (hvb : vb.category = 1) (d : decode cc pc = .ok (.dup_x1, 1)) (K : kJ p l e R s m args below meth c G nL cells slots Q ws (pc + 1) lv (va :: vb :: va :: st)) : kJ p l e R s m args below meth c G nL cells slots Q ws pc lv (va :: vb :: st) := fun H locs ls hG hl => lv_dup_x1 E.1 E.2.1 d hva hvb (K H locs ls hG hl)
theorem k_dup2 (E : kE p s m args c own cc nL D tys G) {va vb : Value} (hva : va.category = 1) (hvb : vb.category = 1) (d : decode cc pc = .ok (.dup2, 1)) (K : kJ p l e R s m args below meth c G nL cells slots Q ws (pc + 1) lv (va :: vb :: va :: vb :: st)) : kJ p l e R s m args below meth c G nL cells slots Q ws pc lv (va :: vb :: st) := fun H locs ls hG hl => lv_dup2_11 E.1 E.2.1 d hva hvb (K H locs ls hG hl)
theorem k_ldc2 (E : kE p s m args c own cc nL D tys G) {index : Nat} {v : Int64} (hc : Cond.constantLong own index v ∈ lw_all) (d : decode cc pc = .ok (.ldc2_w index, 3)) (K : kJ p l e R s m args below meth c G nL cells slots Q ws (pc + 3) lv (.long v :: st)) : kJ p l e R s m args below meth c G nL cells slots Q ws pc lv st := fun H locs ls hG hl => lv_ldc2 E.1 E.2.1 E.2.2.2.1 (E.2.2.2.2.1 _ hc) d (K H locs ls hG hl)
theorem k_goto (E : kE p s m args c own cc nL D tys G) {off : Int} {tgt : Nat} (ht : (pc : Int) + off = (tgt : Int)) (d : decode cc pc = .ok (.goto off, 3)) (K : kJ p l e R s m args below meth c G nL cells slots Q ws tgt lv st) : kJ p l e R s m args below meth c G nL cells slots Q ws pc lv st := fun H locs ls hG hl => lv_goto E.1 E.2.1 d ht (K H locs ls hG hl)
theorem k_if_eq (E : kE p s m args c own cc nL D tys G) {x : Int32} {off : Int} {tgt : Nat} (ht : (pc : Int) + off = (tgt : Int)) (d : decode cc pc = .ok (.ifCond .eq off, 3)) (kt : x = 0 → kJ p l e R s m args below meth c G nL cells slots Q ws tgt lv st) (kf : ¬ x = 0 → kJ p l e R s m args below meth c G nL cells slots Q ws (pc + 3) lv st) : kJ p l e R s m args below meth c G nL cells slots Q ws pc lv (.int x :: st) := fun H locs ls hG hl => lv_if_eq E.1 E.2.1 d ht (fun h => kt h H locs ls hG hl) (fun h => kf h H locs ls hG hl)
theorem k_icmp_eq (E : kE p s m args c own cc nL D tys G) {x y : Int32} {off : Int} {tgt : Nat} (ht : (pc : Int) + off = (tgt : Int)) (d : decode cc pc = .ok (.if_icmp .eq off, 3)) (kt : x = y → kJ p l e R s m args below meth c G nL cells slots Q ws tgt lv st) (kf : ¬ x = y → kJ p l e R s m args below meth c G nL cells slots Q ws (pc + 3) lv st) : kJ p l e R s m args below meth c G nL cells slots Q ws pc lv (.int y :: .int x :: st) := fun H locs ls hG hl => lv_icmp_eq E.1 E.2.1 d ht (fun h => kt h H locs ls hG hl) (fun h => kf h H locs ls hG hl)
theorem k_if_ne (E : kE p s m args c own cc nL D tys G) {x : Int32} {off : Int} {tgt : Nat} (ht : (pc : Int) + off = (tgt : Int)) (d : decode cc pc = .ok (.ifCond .ne off, 3)) (kt : ¬ x = 0 → kJ p l e R s m args below meth c G nL cells slots Q ws tgt lv st) (kf : x = 0 → kJ p l e R s m args below meth c G nL cells slots Q ws (pc + 3) lv st) : kJ p l e R s m args below meth c G nL cells slots Q ws pc lv (.int x :: st) := fun H locs ls hG hl => lv_if_ne E.1 E.2.1 d ht (fun h => kt h H locs ls hG hl) (fun h => kf h H locs ls hG hl)
theorem k_icmp_ne (E : kE p s m args c own cc nL D tys G) {x y : Int32} {off : Int} {tgt : Nat} (ht : (pc : Int) + off = (tgt : Int)) (d : decode cc pc = .ok (.if_icmp .ne off, 3)) (kt : ¬ x = y → kJ p l e R s m args below meth c G nL cells slots Q ws tgt lv st) (kf : x = y → kJ p l e R s m args below meth c G nL cells slots Q ws (pc + 3) lv st) : kJ p l e R s m args below meth c G nL cells slots Q ws pc lv (.int y :: .int x :: st) := fun H locs ls hG hl => lv_icmp_ne E.1 E.2.1 d ht (fun h => kt h H locs ls hG hl) (fun h => kf h H locs ls hG hl)
theorem k_if_lt (E : kE p s m args c own cc nL D tys G) {x : Int32} {off : Int} {tgt : Nat} (ht : (pc : Int) + off = (tgt : Int)) (d : decode cc pc = .ok (.ifCond .lt off, 3)) (kt : x < 0 → kJ p l e R s m args below meth c G nL cells slots Q ws tgt lv st) (kf : ¬ x < 0 → kJ p l e R s m args below meth c G nL cells slots Q ws (pc + 3) lv st) : kJ p l e R s m args below meth c G nL cells slots Q ws pc lv (.int x :: st) := fun H locs ls hG hl => lv_if_lt E.1 E.2.1 d ht (fun h => kt h H locs ls hG hl) (fun h => kf h H locs ls hG hl)
theorem k_icmp_lt (E : kE p s m args c own cc nL D tys G) {x y : Int32} {off : Int} {tgt : Nat} (ht : (pc : Int) + off = (tgt : Int)) (d : decode cc pc = .ok (.if_icmp .lt off, 3)) (kt : x < y → kJ p l e R s m args below meth c G nL cells slots Q ws tgt lv st) (kf : ¬ x < y → kJ p l e R s m args below meth c G nL cells slots Q ws (pc + 3) lv st) : kJ p l e R s m args below meth c G nL cells slots Q ws pc lv (.int y :: .int x :: st) := fun H locs ls hG hl => lv_icmp_lt E.1 E.2.1 d ht (fun h => kt h H locs ls hG hl) (fun h => kf h H locs ls hG hl)
theorem k_if_ge (E : kE p s m args c own cc nL D tys G) {x : Int32} {off : Int} {tgt : Nat} (ht : (pc : Int) + off = (tgt : Int)) (d : decode cc pc = .ok (.ifCond .ge off, 3)) (kt : 0 ≤ x → kJ p l e R s m args below meth c G nL cells slots Q ws tgt lv st) (kf : ¬ 0 ≤ x → kJ p l e R s m args below meth c G nL cells slots Q ws (pc + 3) lv st) : kJ p l e R s m args below meth c G nL cells slots Q ws pc lv (.int x :: st) := fun H locs ls hG hl => lv_if_ge E.1 E.2.1 d ht (fun h => kt h H locs ls hG hl) (fun h => kf h H locs ls hG hl)
theorem k_icmp_ge (E : kE p s m args c own cc nL D tys G) {x y : Int32} {off : Int} {tgt : Nat} (ht : (pc : Int) + off = (tgt : Int)) (d : decode cc pc = .ok (.if_icmp .ge off, 3)) (kt : y ≤ x → kJ p l e R s m args below meth c G nL cells slots Q ws tgt lv st) (kf : ¬ y ≤ x → kJ p l e R s m args below meth c G nL cells slots Q ws (pc + 3) lv st) : kJ p l e R s m args below meth c G nL cells slots Q ws pc lv (.int y :: .int x :: st) := fun H locs ls hG hl => lv_icmp_ge E.1 E.2.1 d ht (fun h => kt h H locs ls hG hl) (fun h => kf h H locs ls hG hl)
theorem k_if_gt (E : kE p s m args c own cc nL D tys G) {x : Int32} {off : Int} {tgt : Nat} (ht : (pc : Int) + off = (tgt : Int)) (d : decode cc pc = .ok (.ifCond .gt off, 3)) (kt : 0 < x → kJ p l e R s m args below meth c G nL cells slots Q ws tgt lv st) (kf : ¬ 0 < x → kJ p l e R s m args below meth c G nL cells slots Q ws (pc + 3) lv st) : kJ p l e R s m args below meth c G nL cells slots Q ws pc lv (.int x :: st) := fun H locs ls hG hl => lv_if_gt E.1 E.2.1 d ht (fun h => kt h H locs ls hG hl) (fun h => kf h H locs ls hG hl)
theorem k_icmp_gt (E : kE p s m args c own cc nL D tys G) {x y : Int32} {off : Int} {tgt : Nat} (ht : (pc : Int) + off = (tgt : Int)) (d : decode cc pc = .ok (.if_icmp .gt off, 3)) (kt : y < x → kJ p l e R s m args below meth c G nL cells slots Q ws tgt lv st) (kf : ¬ y < x → kJ p l e R s m args below meth c G nL cells slots Q ws (pc + 3) lv st) : kJ p l e R s m args below meth c G nL cells slots Q ws pc lv (.int y :: .int x :: st) := fun H locs ls hG hl => lv_icmp_gt E.1 E.2.1 d ht (fun h => kt h H locs ls hG hl) (fun h => kf h H locs ls hG hl)
theorem k_if_le (E : kE p s m args c own cc nL D tys G) {x : Int32} {off : Int} {tgt : Nat} (ht : (pc : Int) + off = (tgt : Int)) (d : decode cc pc = .ok (.ifCond .le off, 3)) (kt : x ≤ 0 → kJ p l e R s m args below meth c G nL cells slots Q ws tgt lv st) (kf : ¬ x ≤ 0 → kJ p l e R s m args below meth c G nL cells slots Q ws (pc + 3) lv st) : kJ p l e R s m args below meth c G nL cells slots Q ws pc lv (.int x :: st) := fun H locs ls hG hl => lv_if_le E.1 E.2.1 d ht (fun h => kt h H locs ls hG hl) (fun h => kf h H locs ls hG hl)
theorem k_icmp_le (E : kE p s m args c own cc nL D tys G) {x y : Int32} {off : Int} {tgt : Nat} (ht : (pc : Int) + off = (tgt : Int)) (d : decode cc pc = .ok (.if_icmp .le off, 3)) (kt : x ≤ y → kJ p l e R s m args below meth c G nL cells slots Q ws tgt lv st) (kf : ¬ x ≤ y → kJ p l e R s m args below meth c G nL cells slots Q ws (pc + 3) lv st) : kJ p l e R s m args below meth c G nL cells slots Q ws pc lv (.int y :: .int x :: st) := fun H locs ls hG hl => lv_icmp_le E.1 E.2.1 d ht (fun h => kt h H locs ls hG hl) (fun h => kf h H locs ls hG hl)
theorem k_get (E : kE p s m args c own cc nL D tys G) {ref C : String} {T : u_T} {N ci index a : Nat} (hin : ∀ w ∈ u_ws C T N, w ∈ lw_all) (q0 : Nat) {fs : List Value} (he : ws[q0]? = some (a, .inr (ci, fs))) (hc : kCl[ci]? = some (C, T, N)) (k : Nat) (hk : k < N) (hlink : Cond.fieldLink own index ref (T k).2.1 (T k).2.2.1 ∈ lw_all) (hsame : (T k).1 = ref) {v : Value} (hv : fs[k]? = some v) (d : decode cc pc = .ok (.getfield index, 3)) (K : kJ p l e R s m args below meth c G nL cells slots Q ws (pc + 3) lv (v :: st)) : kJ p l e R s m args below meth c G nL cells slots Q ws pc lv (.ref a :: st) := fun H locs ls hG hl => va_get E.1 E.2.1 E.2.2.2.2.1 hin E.2.2.2.1 E.2.2.2.2.2.1.1 (E.2.2.2.2.2.2 _ _ _ hG) q0 he hc k hk (E.2.2.2.2.1 _ hlink) (fun x h => by rw [← hsame]; exact h) hv d (K H locs ls hG hl)
theorem k_getN (E : kE p s m args c own cc nL D tys G) {ref C : String} {T : u_T} {N ci index a : Nat} (hin : ∀ w ∈ u_ws C T N, w ∈ lw_all) (q0 : Nat) {fs : List Value} (he : ws[q0]? = some (a, .inr (ci, fs))) (hc : kCl[ci]? = some (C, T, N)) (k : Nat) (hk : k < N) (hown : own = RX2) (hlink : (index, ref, (T k).2.1, (T k).2.2.1) ∈ kNF) (hsame : (T k).1 = ref) {v : Value} (hv : fs[k]? = some v) (d : decode cc pc = .ok (.getfield index, 3)) (K : kJ p l e R s m args below meth c G nL cells slots Q ws (pc + 3) lv (v :: st)) : kJ p l e R s m args below meth c G nL cells slots Q ws pc lv (.ref a :: st) := fun H locs ls hG hl => va_getN (host := RX2) E.1 E.2.1 E.2.2.2.2.1 hin E.2.2.2.1 E.2.2.2.2.2.1.1 (E.2.2.2.2.2.2 _ _ _ hG) q0 he hc k hk (by rw [hown]; exact va_Nw.use rfl (E.2.2.2.2.2.1.2.1 _ hlink)) (fun x h => by rw [← hsame]; exact h) hv d (K H locs ls hG hl)
theorem k_iald (E : kE p s m args c own cc nL D tys G) {a : Nat} (q0 t0 : Nat) {cA : ClassId} {n : Nat} {f : Nat → Int32} (ha : ws[q0]? = some (a, .inl (cA, n, .inl f))) (ht : tys[t0]? = some (cA, .int)) {i : Int32} {j : Nat} (hi : i = nI j) (hj : j < n) (hn : n < 2 ^ 31) (d : decode cc pc = .ok (.iaload, 1)) (K : kJ p l e R s m args below meth c G nL cells slots Q ws (pc + 1) lv (.int (f j) :: st)) : kJ p l e R s m args below meth c G nL cells slots Q ws pc lv (.int i :: .ref a :: st) := fun H locs ls hG hl => va_iald E.1 E.2.1 E.2.2.2.2.2.1.1 (E.2.2.2.2.2.2 _ _ _ hG) q0 t0 ha ht (by rw [hi]; exact vp_in_nI hj hn) d (by rw [hi, nI_clamp (Nat.lt_trans hj hn)]; exact K H locs ls hG hl)
theorem k_cald (E : kE p s m args c own cc nL D tys G) {a : Nat} (q0 t0 : Nat) {cA : ClassId} {n : Nat} {f : Nat → Int32} (ha : ws[q0]? = some (a, .inl (cA, n, .inl f))) (ht : tys[t0]? = some (cA, .char)) {i : Int32} {j : Nat} (hi : i = nI j) (hj : j < n) (hn : n < 2 ^ 31) (d : decode cc pc = .ok (.caload, 1)) (K : kJ p l e R s m args below meth c G nL cells slots Q ws (pc + 1) lv (.int (f j) :: st)) : kJ p l e R s m args below meth c G nL cells slots Q ws pc lv (.int i :: .ref a :: st) := fun H locs ls hG hl => va_cald E.1 E.2.1 E.2.2.2.2.2.1.1 (E.2.2.2.2.2.2 _ _ _ hG) q0 t0 ha ht (by rw [hi]; exact vp_in_nI hj hn) d (by rw [hi, nI_clamp (Nat.lt_trans hj hn)]; exact K H locs ls hG hl)
theorem k_zald (E : kE p s m args c own cc nL D tys G) {a : Nat} (q0 t0 : Nat) {cA : ClassId} {n : Nat} {f : Nat → Int32} (ha : ws[q0]? = some (a, .inl (cA, n, .inl f))) (ht : tys[t0]? = some (cA, .boolean)) {i : Int32} {j : Nat} (hi : i = nI j) (hj : j < n) (hn : n < 2 ^ 31) (d : decode cc pc = .ok (.baload, 1)) (K : kJ p l e R s m args below meth c G nL cells slots Q ws (pc + 1) lv (.int (f j) :: st)) : kJ p l e R s m args below meth c G nL cells slots Q ws pc lv (.int i :: .ref a :: st) := fun H locs ls hG hl => va_zald E.1 E.2.1 E.2.2.2.2.2.1.1 (E.2.2.2.2.2.2 _ _ _ hG) q0 t0 ha ht (by rw [hi]; exact vp_in_nI hj hn) d (by rw [hi, nI_clamp (Nat.lt_trans hj hn)]; exact K H locs ls hG hl)
theorem k_lald (E : kE p s m args c own cc nL D tys G) {a : Nat} (q0 t0 : Nat) {cA : ClassId} {n : Nat} {f : Nat → Int64} (ha : ws[q0]? = some (a, .inl (cA, n, .inr (.inl f)))) (ht : tys[t0]? = some (cA, .long)) {i : Int32} {j : Nat} (hi : i = nI j) (hj : j < n) (hn : n < 2 ^ 31) (d : decode cc pc = .ok (.laload, 1)) (K : kJ p l e R s m args below meth c G nL cells slots Q ws (pc + 1) lv (.long (f j) :: st)) : kJ p l e R s m args below meth c G nL cells slots Q ws pc lv (.int i :: .ref a :: st) := fun H locs ls hG hl => va_lald E.1 E.2.1 E.2.2.2.2.2.1.1 (E.2.2.2.2.2.2 _ _ _ hG) q0 t0 ha ht (by rw [hi]; exact vp_in_nI hj hn) d (by rw [hi, nI_clamp (Nat.lt_trans hj hn)]; exact K H locs ls hG hl)
theorem k_dald (E : kE p s m args c own cc nL D tys G) {a : Nat} (q0 t0 : Nat) {cA : ClassId} {n : Nat} {f : Nat → UInt64} (ha : ws[q0]? = some (a, .inl (cA, n, .inr (.inr (.inr (.inl f)))))) (ht : tys[t0]? = some (cA, .double)) {i : Int32} {j : Nat} (hi : i = nI j) (hj : j < n) (hn : n < 2 ^ 31) (d : decode cc pc = .ok (.daload, 1)) (K : kJ p l e R s m args below meth c G nL cells slots Q ws (pc + 1) lv (.double (f j) :: st)) : kJ p l e R s m args below meth c G nL cells slots Q ws pc lv (.int i :: .ref a :: st) := fun H locs ls hG hl => va_dald E.1 E.2.1 E.2.2.2.2.2.1.1 (E.2.2.2.2.2.2 _ _ _ hG) q0 t0 ha ht (by rw [hi]; exact vp_in_nI hj hn) d (by rw [hi, nI_clamp (Nat.lt_trans hj hn)]; exact K H locs ls hG hl)
theorem k_aald (E : kE p s m args c own cc nL D tys G) {a : Nat} (q0 t0 : Nat) {cA : ClassId} {ty : FieldType} {n : Nat} {f : Nat → Option Nat} (ha : ws[q0]? = some (a, .inl (cA, n, .inr (.inr (.inr (.inr f)))))) (ht : tys[t0]? = some (cA, .array ty)) {i : Int32} {j b : Nat} (hi : i = nI j) (hj : j < n) (hn : n < 2 ^ 31) (hf : f j = some b) (d : decode cc pc = .ok (.aaload, 1)) (K : kJ p l e R s m args below meth c G nL cells slots Q ws (pc + 1) lv (.ref b :: st)) : kJ p l e R s m args below meth c G nL cells slots Q ws pc lv (.int i :: .ref a :: st) := fun H locs ls hG hl => by
  have hin : vp_in i n := by rw [hi]; exact vp_in_nI hj hn
  have hcl : i.toNatClampNeg = j := by rw [hi]; exact nI_clamp (Nat.lt_trans hj hn)
  refine W.aald (v := .ref b) (ty := .array ty) E.1 E.2.1 ((E.2.2.2.2.2.2 _ _ _ hG) q0 _ ha) ((E.2.2.2.2.2.1.1.2 t0 _ ht).1 n (fun j => va_rf (f j))) rfl (fun q => by cases q) (by show ¬ (i < 0 ∨ (arrV _ _ _).slots.size ≤ _); rw [arrV_size]; exact hin) (by show (arrV _ _ _).slots[_]? = _; rw [hcl, arrV_read _ _ hj, hf]; rfl) rfl rfl d (K H locs ls hG hl)
theorem k_lv  {lv' : List (Nat × Value)} (is : List Nat) (h : lv_pick lv is = lv') (K : kJ p l e R s m args below meth c G nL cells slots Q ws pc lv' st) : kJ p l e R s m args below meth c G nL cells slots Q ws pc lv st := fun H locs ls hG hl => K H locs ls hG (lv_sub hl is h)
theorem k_lveq {lv' : List (Nat × Value)} (h : lv = lv') (K : kJ p l e R s m args below meth c G nL cells slots Q ws pc lv' st) : kJ p l e R s m args below meth c G nL cells slots Q ws pc lv st := h ▸ K
theorem k_wseq {ws' : va_W} (h : ws = ws') (K : kJ p l e R s m args below meth c G nL cells slots Q ws' pc lv st) : kJ p l e R s m args below meth c G nL cells slots Q ws pc lv st := h ▸ K
theorem k_steq {st' : List Value} (h : st = st') (K : kJ p l e R s m args below meth c G nL cells slots Q ws pc lv st') : kJ p l e R s m args below meth c G nL cells slots Q ws pc lv st := h ▸ K
theorem k_widen {k n : Nat} (h1 : cells ≤ k) (h2 : slots ≤ n) (K : kJ p l e R s m args below meth c G nL k n Q ws pc lv st) : kJ p l e R s m args below meth c G nL cells slots Q ws pc lv st := fun H locs ls hG hl => W.widen h1 h2 (K H locs ls hG hl)
theorem k_mmin (E : kE p s m args c own cc nL D tys G) {index : Nat} (hlink : Cond.methodLink own index Lib.Math.min.name ∈ lw_all) (hstat : Cond.static Lib.Math.min.name ∈ lw_all) (hini : Cond.initialized "java/lang/Math" ∈ lw_all) (hcode : Cond.code Lib.Math.min.name Lib.Math.min.code 2 (some .int) ∈ lw_all) (hf : 1 ≤ R.frames) (hlo : (st.map fun v => v.category).sum + 13 ≤ R.locals) (hc : cells ≤ R.cells) (hs : slots ≤ R.slots) {x y : Int32} (d : decode cc pc = .ok (.invokestatic index, 3)) (K : kJ p l e R s m args below meth c G nL cells slots Q ws (pc + 3) lv (.int (if y < x then y else x) :: st)) : kJ p l e R s m args below meth c G nL cells slots Q ws pc lv (.int y :: .int x :: st) := fun H locs ls hG hl => va_mmin E.1 E.2.1 (E.2.2.1.trans hl.1.symm) E.2.2.2.1 (E.2.2.2.2.1 _ hlink) (E.2.2.2.2.1 _ hstat) (E.2.2.2.2.1 _ hini) (E.2.2.2.2.1 _ hcode) hf hlo hc hs d (K H locs ls hG hl)
theorem k_mmax (E : kE p s m args c own cc nL D tys G) {index : Nat} (hlink : Cond.methodLink own index Lib.Math.max.name ∈ lw_all) (hstat : Cond.static Lib.Math.max.name ∈ lw_all) (hini : Cond.initialized "java/lang/Math" ∈ lw_all) (hcode : Cond.code Lib.Math.max.name Lib.Math.max.code 2 (some .int) ∈ lw_all) (hf : 1 ≤ R.frames) (hlo : (st.map fun v => v.category).sum + 13 ≤ R.locals) (hc : cells ≤ R.cells) (hs : slots ≤ R.slots) {x y : Int32} (d : decode cc pc = .ok (.invokestatic index, 3)) (K : kJ p l e R s m args below meth c G nL cells slots Q ws (pc + 3) lv (.int (if x < y then y else x) :: st)) : kJ p l e R s m args below meth c G nL cells slots Q ws pc lv (.int y :: .int x :: st) := fun H locs ls hG hl => va_mmax E.1 E.2.1 (E.2.2.1.trans hl.1.symm) E.2.2.2.1 (E.2.2.2.2.1 _ hlink) (E.2.2.2.2.1 _ hstat) (E.2.2.2.2.1 _ hini) (E.2.2.2.2.1 _ hcode) hf hlo hc hs d (K H locs ls hG hl)
theorem k_mabs (E : kE p s m args c own cc nL D tys G) {index : Nat} (hlink : Cond.methodLink own index Lib.Math.abs.name ∈ lw_all) (hstat : Cond.static Lib.Math.abs.name ∈ lw_all) (hini : Cond.initialized "java/lang/Math" ∈ lw_all) (hcode : Cond.code Lib.Math.abs.name Lib.Math.abs.code 1 (some .int) ∈ lw_all) (hf : 1 ≤ R.frames) (hlo : (st.map fun v => v.category).sum + 13 ≤ R.locals) (hc : cells ≤ R.cells) (hs : slots ≤ R.slots) {x : Int32} (d : decode cc pc = .ok (.invokestatic index, 3)) (K : kJ p l e R s m args below meth c G nL cells slots Q ws (pc + 3) lv (.int (if 0 ≤ x then x else 0 - x) :: st)) : kJ p l e R s m args below meth c G nL cells slots Q ws pc lv (.int x :: st) := fun H locs ls hG hl => va_mabs E.1 E.2.1 (E.2.2.1.trans hl.1.symm) E.2.2.2.1 (E.2.2.2.2.1 _ hlink) (E.2.2.2.2.1 _ hstat) (E.2.2.2.2.1 _ hini) (E.2.2.2.2.1 _ hcode) hf hlo hc hs d (K H locs ls hG hl)
theorem kRun_R {v : Option Value} {a : Array Value} {st0 : List Value} (hr : ∀ (H : Heap) (locs : List Loc) (ls : Array Slot), G ws H locs → lv_has ls nL lv → va_Run p l e R s m args below meth c H locs cells slots 0 0 (F0 m pc ls st0) st (kQr v a) (fun _ => False)) (K : kJ p l e R s m args below meth c G nL cells slots Q ws (pc + 3) lv (v.toList ++ st)) : kJ p l e R s m args below meth c G nL cells slots Q ws pc lv st0 := by
  intro H locs ls hG hl T hT X
  obtain ⟨v', st₀, t, T', L, h0, X', hL, e1, e2, ⟨ho, hh⟩, stp⟩ := hr H locs ls hG hl T hT X
  cases ho
  obtain ⟨t2, a1, b1⟩ := K H locs ls hG hl T' (by rw [e1, hh, h0]) (Stand.forget X' (fun q h => (hL q h).elim))
  exact ⟨t2, stp t2 a1, b1⟩
theorem kFB {av : List Value} {W0 : va_W} : FrameBlind (va_Pc av (fun U => va_P D kCl W0 U.heap ∧ kK D tys U)) := fun a U g mk q => ⟨q.1, q.2.1, kK.calling q.2.2⟩
theorem k_callRV {y : MethodName} {bytes : ByteArray} {maxL f lo n idx b ci : Nat} {ret : Option FieldType} {Wc : va_W} {v : Option Value} {fs : List Value} {T : u_T} {N : Nat} {st0 : List Value} (As : List Value) (E : kE p s m args c own cc nL D tys G) (hM : mR l y bytes maxL ret f lo D tys (.ref b :: As) Wc v) (F : kCF y bytes maxL ret n) (hlk : Cond.methodLink own idx y ∈ lw_all) (is : List Nat) (hs : is.filterMap (fun i => ws[i]?) = Wc) (q0 : Nat) (he : ws[q0]? = some (b, .inr (ci, fs))) (hci : kCl[ci]? = some (y.cls, T, N)) (hst : st0 = As.reverse ++ .ref b :: st) (hn : As.length = n) (hR : f + 1 ≤ R.frames ∧ 8 + (maxL + 11) + lo ≤ R.locals) (hcat : (st.map fun v => v.category).sum ≤ 8) (hc : cells ≤ R.cells ∧ slots ≤ R.slots) (d : decode cc pc = .ok (.invokevirtual idx, 3)) (K : kJ p l e R s m args below meth c G nL cells slots Q ws (pc + 3) lv (v.toList ++ st)) : kJ p l e R s m args below meth c G nL cells slots Q ws pc lv st0 := by
  subst hst
  refine kRun_R (a := (Value.ref b :: As).toArray) (fun H locs ls hG hl => ?_) K
  have hP := E.2.2.2.2.2.2 _ _ _ hG
  exact va_runV (nL := nL) (g := F0 m pc ls _) ⟨E.1, E.2.1, E.2.2.1, E.2.2.2.1, E.2.2.2.2.1⟩ hM (cwV n E.2.2.2.2.1 (kV_in F hlk) rfl rfl rfl ⟨rfl, F.2.2.2.2.1.1, F.2.2.2.2.1.2, F.2.2.2.2.2⟩ hR) ⟨kFB, va_recv E.2.2.2.2.2.1.1 hP hci he, fun U hU hW => ⟨rfl, by rw [hU]; exact hP.sub is hs, kK.moved hW E.2.2.2.2.2.1⟩⟩ rfl hn hl.1 rfl (lv_room hcat) d hc
theorem k_callRVN {y : MethodName} {bytes : ByteArray} {maxL f lo n idx b ci : Nat} {ret : Option FieldType} {Wc : va_W} {v : Option Value} {fs : List Value} {T : u_T} {N : Nat} {st0 : List Value} (As : List Value) (E : kE p s m args c own cc nL D tys G) (hM : mR l y bytes maxL ret f lo D tys (.ref b :: As) Wc v) (F : kCF y bytes maxL ret n) (hown : own = RX2) (hlk : (idx, y) ∈ kNM) (is : List Nat) (hs : is.filterMap (fun i => ws[i]?) = Wc) (q0 : Nat) (he : ws[q0]? = some (b, .inr (ci, fs))) (hci : kCl[ci]? = some (y.cls, T, N)) (hst : st0 = As.reverse ++ .ref b :: st) (hn : As.length = n) (hR : f + 1 ≤ R.frames ∧ 8 + (maxL + 11) + lo ≤ R.locals) (hcat : (st.map fun v => v.category).sum ≤ 8) (hc : cells ≤ R.cells ∧ slots ≤ R.slots) (d : decode cc pc = .ok (.invokevirtual idx, 3)) (K : kJ p l e R s m args below meth c G nL cells slots Q ws (pc + 3) lv (v.toList ++ st)) : kJ p l e R s m args below meth c G nL cells slots Q ws pc lv st0 := by
  subst hst
  subst hown
  refine kRun_R (a := (Value.ref b :: As).toArray) (fun H locs ls hG hl => ?_) K
  have hP := E.2.2.2.2.2.2 _ _ _ hG
  exact va_runVN (nL := nL) (g := F0 m pc ls _) ⟨E.1, E.2.1, E.2.2.1, E.2.2.2.1, E.2.2.2.2.1⟩ hM ⟨va_cnB n E.2.2.2.2.1 (kws_in F.1) rfl rfl rfl (E.2.2.2.2.2.1.2.2.1 _ hlk) (E.2.2.2.2.1 _ F.2.2.2.1) ⟨F.2.2.2.2.1.1, F.2.2.2.2.1.2, F.2.2.2.2.2⟩ hR, E.2.2.2.2.1 _ F.2.1, E.2.2.2.2.1 _ F.2.2.1⟩ ⟨kFB, va_recv E.2.2.2.2.2.1.1 hP hci he, fun U hU hW => ⟨rfl, by rw [hU]; exact hP.sub is hs, kK.moved hW E.2.2.2.2.2.1⟩⟩ rfl hn hl.1 rfl (lv_room hcat) d hc
theorem k_callRS {y : MethodName} {bytes : ByteArray} {maxL f lo n idx : Nat} {ret : Option FieldType} {Wc : va_W} {v : Option Value} {st0 : List Value} (As : List Value) (E : kE p s m args c own cc nL D tys G) (hM : mR l y bytes maxL ret f lo D tys As Wc v) (F : kCS y bytes maxL ret n) (hlk : Cond.methodLink own idx y ∈ lw_all) (is : List Nat) (hs : is.filterMap (fun i => ws[i]?) = Wc) (hst : st0 = As.reverse ++ st) (hn : As.length = n) (hR : f + 1 ≤ R.frames ∧ 8 + (maxL + 11) + lo ≤ R.locals) (hcat : (st.map fun v => v.category).sum ≤ 8) (hc : cells ≤ R.cells ∧ slots ≤ R.slots) (d : decode cc pc = .ok (.invokestatic idx, 3)) (K : kJ p l e R s m args below meth c G nL cells slots Q ws (pc + 3) lv (v.toList ++ st)) : kJ p l e R s m args below meth c G nL cells slots Q ws pc lv st0 := by
  subst hst
  refine kRun_R (a := As.toArray) (fun H locs ls hG hl => ?_) K
  have hP := E.2.2.2.2.2.2 _ _ _ hG
  exact va_runS (nL := nL) (g := F0 m pc ls _) ⟨E.1, E.2.1, E.2.2.1, E.2.2.2.1, E.2.2.2.2.1⟩ hM (va_cwS n E.2.2.2.2.1 (kS_in F hlk) rfl rfl rfl ⟨F.2.2.2.1.1, F.2.2.2.1.2, F.2.2.2.2⟩ hR) ⟨kFB, fun U hU hW => ⟨rfl, by rw [hU]; exact hP.sub is hs, kK.moved hW E.2.2.2.2.2.1⟩⟩ rfl hn hl.1 rfl (lv_room hcat) d hc

theorem mR.of {y : MethodName} {bytes : ByteArray} {ret : Option FieldType} {f lo : Nat} {av : List Value} {W0 : va_W} {v : Option Value} {lv' : List (Nat × Value)} (hy : plainName y.cls = true) (hlen : (lg_sl av).length ≤ nL) (hlv : lv_args 0 av = lv') (body : ∀ (p : Program) (e : Env) (s : State) (m : MethodId) (args : Array Value) (below : List Frame) (meth : Method) (c : Code), kE p s m args c y.cls bytes nL D tys (gR D s.heap) → meth.sig.returnType = ret → meth.locks = false → kJ p l e (kRm f lo) s m args below meth c (gR D s.heap) nL 0 0 (MQ below (kQr v) args s 0 0 (fun _ => False)) W0 0 lv' []) : mR l y bytes nL ret f lo D tys av W0 v := by
  refine Met.ofW (cc := bytes) (maxL := nL) (ret := ret) hy rfl ?_
  intro p e s m args below meth c s₁ B hml hv
  obtain ⟨rfl, hP, hK⟩ := hv
  have hts := atoms_spec (ws := kws y bytes nL ret) B.pre
  have hown : s.vm.findClass y.cls = some m.cls := findClass_of_methodNamed B.named
  have hl := lv_entry av (n := nL) hlen
  rw [lg_entry_eq]
  exact body p e s m _ below meth c ⟨B.exec, B.bytes, hml, hown, fun w h => hts w (List.mem_cons_of_mem _ h), hK, fun _ _ _ hG => hG.1⟩ B.returns B.notSynchronized s.heap [] _ ⟨hP, rfl, rfl⟩ (hlv ▸ hl)

theorem kr_iret {v : Option Value} {x : Int32} (E : kE p s m args c own cc nL D tys (gR D s.heap)) (hr : meth.sig.returnType = some .int) (hlk : meth.locks = false) (hv : some (Value.int x) = v) (d : decode cc pc = .ok (.ireturn, 1)) : kJ p l e R s m args below meth c (gR D s.heap) nL 0 0 (MQ below (kQr v) args s 0 0 (fun _ => False)) ws pc lv [.int x] := by
  intro H locs ls hG hl
  obtain ⟨hP, rfl, rfl⟩ := hG
  exact W.iret E.1 E.2.1 hr (fun t ht hW => ⟨by rw [hv], ht⟩) (fun q h => nomatch h) d hlk
theorem kr_lret {v : Option Value} {x : Int64} (E : kE p s m args c own cc nL D tys (gR D s.heap)) (hr : meth.sig.returnType = some .long) (hlk : meth.locks = false) (hv : some (Value.long x) = v) (d : decode cc pc = .ok (.lreturn, 1)) : kJ p l e R s m args below meth c (gR D s.heap) nL 0 0 (MQ below (kQr v) args s 0 0 (fun _ => False)) ws pc lv [.long x] := by
  intro H locs ls hG hl
  obtain ⟨hP, rfl, rfl⟩ := hG
  exact W.lret E.1 E.2.1 hr (fun t ht hW => ⟨by rw [hv], ht⟩) (fun q h => nomatch h) d hlk
theorem kr_fret {v : Option Value} {x : UInt32} (E : kE p s m args c own cc nL D tys (gR D s.heap)) (hr : meth.sig.returnType = some .float) (hlk : meth.locks = false) (hv : some (Value.float x) = v) (d : decode cc pc = .ok (.freturn, 1)) : kJ p l e R s m args below meth c (gR D s.heap) nL 0 0 (MQ below (kQr v) args s 0 0 (fun _ => False)) ws pc lv [.float x] := by
  intro H locs ls hG hl
  obtain ⟨hP, rfl, rfl⟩ := hG
  exact W.fret E.1 E.2.1 hr (fun t ht hW => ⟨by rw [hv], ht⟩) (fun q h => nomatch h) d hlk
theorem kr_dret {v : Option Value} {x : UInt64} (E : kE p s m args c own cc nL D tys (gR D s.heap)) (hr : meth.sig.returnType = some .double) (hlk : meth.locks = false) (hv : some (Value.double x) = v) (d : decode cc pc = .ok (.dreturn, 1)) : kJ p l e R s m args below meth c (gR D s.heap) nL 0 0 (MQ below (kQr v) args s 0 0 (fun _ => False)) ws pc lv [.double x] := by
  intro H locs ls hG hl
  obtain ⟨hP, rfl, rfl⟩ := hG
  exact W.dret E.1 E.2.1 hr (fun t ht hW => ⟨by rw [hv], ht⟩) (fun q h => nomatch h) d hlk
theorem kr_zret {v : Option Value} {x : Int32} {ty : FieldType} (E : kE p s m args c own cc nL D tys (gR D s.heap)) (hr : meth.sig.returnType = some ty) (hlk : meth.locks = false) (hn : narrow ty (.int x) = .int x) (hv : some (Value.int x) = v) (d : decode cc pc = .ok (.ireturn, 1)) : kJ p l e R s m args below meth c (gR D s.heap) nL 0 0 (MQ below (kQr v) args s 0 0 (fun _ => False)) ws pc lv [.int x] := by
  intro H locs ls hG hl
  obtain ⟨hP, rfl, rfl⟩ := hG
  exact W.zret E.1 E.2.1 hr hn (fun t ht hW => ⟨by rw [hv], ht⟩) (fun q h => nomatch h) d hlk
theorem kr_vret {v : Option Value} (E : kE p s m args c own cc nL D tys (gR D s.heap)) (hr : meth.sig.returnType = none) (hlk : meth.locks = false) (hv : none = v) (d : decode cc pc = .ok (.return_, 1)) : kJ p l e R s m args below meth c (gR D s.heap) nL 0 0 (MQ below (kQr v) args s 0 0 (fun _ => False)) ws pc lv [] := by
  intro H locs ls hG hl
  obtain ⟨hP, rfl, rfl⟩ := hG
  exact W.vret E.1 E.2.1 hr (fun t ht hW => ⟨by rw [hv], ht⟩) (fun q h => nomatch h) d hlk
end KR
end
section
section KW
variable {p : Program} {l : Launch} {e : Env} {R : Room} {s : State} {m : MethodId} {args : Array Value} {below : List Frame} {meth : Method} {c : Code} {cells slots : Nat} {Q : State → Prop}
variable {cc : ByteArray} {own : String} {nL pc : Nat} {D : va_G} {tys : List (ClassId × FieldType)} {A : Nat → Prop} {ws : va_W} {lv : List (Nat × Value)} {st : List Value}
theorem kPl {D : va_G} {cl : List vw_C} {a b : va_W} {H : Heap} (h : va_P D cl (a ++ b) H) : va_P D cl a H := fun k q hk => h k q (by rw [List.getElem?_append_left (List.getElem?_eq_some_iff.mp hk).1]; exact hk)
theorem kPr {D : va_G} {cl : List vw_C} {a b : va_W} {H : Heap} (h : va_P D cl (a ++ b) H) : va_P D cl b H := fun k q hk => h (a.length + k) q (by rw [List.getElem?_append_right (Nat.le_add_right _ _), Nat.add_sub_cancel_left]; exact hk)
theorem kDl {A : Nat → Prop} {a b : va_W} (h : va_D A (a ++ b)) : va_D A a := ⟨fun i j x y hi hj hxy => h.1 i j x y (by rw [List.getElem?_append_left (List.getElem?_eq_some_iff.mp hi).1]; exact hi) (by rw [List.getElem?_append_left (List.getElem?_eq_some_iff.mp hj).1]; exact hj) hxy, fun k q hk => h.2 k q (by rw [List.getElem?_append_left (List.getElem?_eq_some_iff.mp hk).1]; exact hk)⟩
theorem kDr {A : Nat → Prop} {a b : va_W} (h : va_D A (a ++ b)) : va_D A b := by
  refine ⟨fun i j x y hi hj hxy => ?_, fun k q hk => h.2 (a.length + k) q (by rw [List.getElem?_append_right (Nat.le_add_right _ _), Nat.add_sub_cancel_left]; exact hk)⟩
  have := h.1 (a.length + i) (a.length + j) x y (by rw [List.getElem?_append_right (Nat.le_add_right _ _), Nat.add_sub_cancel_left]; exact hi) (by rw [List.getElem?_append_right (Nat.le_add_right _ _), Nat.add_sub_cancel_left]; exact hj) hxy
  omega
theorem kDx {A : Nat → Prop} {a b : va_W} (h : va_D A (a ++ b)) {i j : Nat} {x y : Nat × va_E} (hi : a[i]? = some x) (hj : b[j]? = some y) : x.1 ≠ y.1 := by
  intro hxy
  have hl := (List.getElem?_eq_some_iff.mp hi).1
  have := h.1 i (a.length + j) x y (by rw [List.getElem?_append_left hl]; exact hi) (by rw [List.getElem?_append_right (Nat.le_add_right _ _), Nat.add_sub_cancel_left]; exact hj) hxy
  omega
theorem kPs {D : va_G} {cl : List vw_C} {a b c : va_W} {H : Heap} (h : va_P D cl (a ++ (b ++ c)) H) : va_P D cl b H := kPl (kPr h)
theorem kDs {A : Nat → Prop} {a b c : va_W} (h : va_D A (a ++ (b ++ c))) : va_D A b := kDl (kDr h)
/-- behind a call on the middle of a world -/
theorem k_mid {A0 : Nat → Prop} {D : va_G} {cl : List vw_C} {pre wc post w1 : va_W} {H H1 : Heap} (hP : va_P D cl (pre ++ (wc ++ post)) H) (hD : va_D A0 (pre ++ (wc ++ post))) (hk : ∀ q : Nat, q < H.size → ¬ va_A wc H.size q → H1[q]? = H[q]?) (hF : ∀ q, va_A wc H.size q → A0 q) (hP1 : va_P D cl w1 H1) (hD1 : va_D (va_A wc H.size) w1) : va_P D cl (pre ++ (w1 ++ post)) H1 ∧ va_D A0 (pre ++ (w1 ++ post)) := by
  have hPp := kPl hP
  have hPq := kPr (kPr hP)
  have na : ∀ (k : Nat) (q : Nat × va_E), pre[k]? = some q → ¬ va_A wc H.size q.1 := by
    intro k q hq h
    rcases h with ⟨j, e, h⟩ | h
    · exact kDx hD hq (j := j) (y := (q.1, e)) (by rw [List.getElem?_append_left (List.getElem?_eq_some_iff.mp h).1]; exact h) rfl
    · have := (hPp k q hq).lt
      omega
  have nb : ∀ (k : Nat) (q : Nat × va_E), post[k]? = some q → ¬ va_A wc H.size q.1 := by
    intro k q hq h
    rcases h with ⟨j, e, h⟩ | h
    · exact kDx (kDr hD) h hq rfl
    · have := (hPq k q hq).lt
      omega
  refine ⟨va_P.app (hPp.kept fun k q hq => hk q.1 (hPp k q hq).lt (na k q hq)) (va_P.app hP1 (hPq.kept fun k q hq => hk q.1 (hPq k q hq).lt (nb k q hq))), ?_⟩
  have hw1 : ∀ (k : Nat) (q : Nat × va_E), w1[k]? = some q → va_A wc H.size q.1 := fun k q hq => hD1.2 k q hq
  refine va_D.app (kDl hD) (va_D.app (hD1.weaken fun k q hq h => hF q.1 h) (kDr (kDr hD)) fun i j x y hx hy hxy => nb j y hy (by rw [← hxy]; exact hw1 i x hx)) fun i j x y hx hy hxy => ?_
  by_cases hl : j < w1.length
  · rw [List.getElem?_append_left hl] at hy
    exact na i x hx (by rw [hxy]; exact hw1 j y hy)
  · rw [List.getElem?_append_right (by omega)] at hy
    refine kDx hD hx (j := wc.length + (j - w1.length)) (y := y) ?_ hxy
    rw [List.getElem?_append_right (by omega), Nat.add_sub_cancel_left]
    exact hy
theorem k_freeM {A0 : Nat → Prop} {pre wc post : va_W} {H0 H : Heap} {locs : List Loc} (hD : va_D A0 (pre ++ (wc ++ post))) (hS : va_S A0 H0 H locs) (hA : ∀ q, H0.size ≤ q → A0 q) : ∀ q, va_A wc H.size q → A0 q := by
  intro q h
  rcases h with ⟨k, e, h⟩ | h
  · exact (kDs hD).2 k (q, e) h
  · exact hA q (Nat.le_trans hS.1 h)
theorem kZ.go {A A1 : Nat → Prop} {s U : State} {H : Heap} {locs : List Loc} (hZ : kZ A s s.heap) (hS : va_S A s.heap H locs) (hU : U.heap = H) (hW : s.WarmedH U.vm) (hn : ∀ q, A1 q → A q) : kZ A1 U U.heap := by
  rw [hU]
  exact ⟨vx_Zq.narrow (vx_Zq.moved hW.alike (hZ.1.kept hS.2.1)) hn, vx_Zq.narrow (vx_Zq.moved hW.alike (hZ.2.kept hS.2.1)) hn⟩

theorem k_put (E : kE p s m args c own cc nL D tys (gW D A s.heap)) {ref C : String} {T : u_T} {N ci index a : Nat} {ws' : va_W} (hin : ∀ w ∈ u_ws C T N, w ∈ lw_all) (ty0 : Nat → FieldType) (hty : ∀ k, k < N → parseFieldDescriptor (T k).2.2.1 = some (ty0 k)) (hnm : ∀ a, a < N → ∀ b, b < N → a ≠ b → (T a).2.1 ≠ (T b).2.1) (q0 : Nat) {fs : List Value} (he : ws[q0]? = some (a, .inr (ci, fs))) (hc : kCl[ci]? = some (C, T, N)) (k : Nat) (hk : k < N) (hlink : Cond.fieldLink own index ref (T k).2.1 (T k).2.2.1 ∈ lw_all) (hsame : (T k).1 = ref) (hfin : (T k).2.2.2 = false) {v : Value} (hn : narrow (ty0 k) v = v) (hfit : fits (ty0 k) v = true) (hl0 : k < fs.length) (hw : ws.set q0 (a, .inr (ci, fs.set k v)) = ws') (d : decode cc pc = .ok (.putfield index, 3)) (K : kJ p l e R s m args below meth c (gW D A s.heap) nL cells slots Q ws' (pc + 3) lv st) : kJ p l e R s m args below meth c (gW D A s.heap) nL cells slots Q ws pc lv (v :: .ref a :: st) := fun H locs ls hG hl => va_put E.1 E.2.1 E.2.2.2.2.1 hin ty0 hty hnm E.2.2.2.1 E.2.2.2.2.2.1.1 hG.1 hG.2.1 hG.2.2 q0 he hc k hk (E.2.2.2.2.1 _ hlink) (fun x h => by rw [← hsame]; exact h) hfin (hty k hk) hn hfit hl0 d (fun H1 locs1 hP hD hS => K H1 locs1 ls ⟨hw ▸ hP, hw ▸ hD, hS⟩ hl)
theorem k_putF (E : kE p s m args c own cc nL D tys (gW D A s.heap)) {ref C : String} {T : u_T} {N ci index a : Nat} {ws' : va_W} (hin : ∀ w ∈ u_ws C T N, w ∈ lw_all) (ty0 : Nat → FieldType) (hty : ∀ k, k < N → parseFieldDescriptor (T k).2.2.1 = some (ty0 k)) (hnm : ∀ a, a < N → ∀ b, b < N → a ≠ b → (T a).2.1 ≠ (T b).2.1) (q0 : Nat) {fs : List Value} (he : ws[q0]? = some (a, .inr (ci, fs))) (hc : kCl[ci]? = some (C, T, N)) (k : Nat) (hk : k < N) (hlink : Cond.fieldLink own index ref (T k).2.1 (T k).2.2.1 ∈ lw_all) (hsame : (T k).1 = ref) (hfin : (T k).2.2.2 = true) (hin2 : meth.name = "<init>") (hdecl : (T k).1 = own) {v : Value} (hn : narrow (ty0 k) v = v) (hfit : fits (ty0 k) v = true) (hl0 : k < fs.length) (hw : ws.set q0 (a, .inr (ci, fs.set k v)) = ws') (d : decode cc pc = .ok (.putfield index, 3)) (K : kJ p l e R s m args below meth c (gW D A s.heap) nL cells slots Q ws' (pc + 3) lv st) : kJ p l e R s m args below meth c (gW D A s.heap) nL cells slots Q ws pc lv (v :: .ref a :: st) := fun H locs ls hG hl => va_putF E.1 E.2.1 E.2.2.2.2.1 hin ty0 hty hnm E.2.2.2.1 E.2.2.2.2.2.1.1 hG.1 hG.2.1 hG.2.2 q0 he hc k hk (E.2.2.2.2.1 _ hlink) (fun x h => by rw [← hsame]; exact h) hfin hin2 hdecl (hty k hk) hn hfit hl0 d (fun H1 locs1 hP hD hS => K H1 locs1 ls ⟨hw ▸ hP, hw ▸ hD, hS⟩ hl)
theorem k_iast (E : kE p s m args c own cc nL D tys (gW D A s.heap)) {a : Nat} {ws' : va_W} (q0 t0 : Nat) {cA : ClassId} {n : Nat} {f : Nat → Int32} (ha : ws[q0]? = some (a, .inl (cA, n, .inl f))) (ht : tys[t0]? = some (cA, .int)) {i : Int32} {j : Nat} {x : Int32} {y : Int32} (hi : i = nI j) (hj : j < n) (hn : n < 2 ^ 31) (hv : x = y) (hw : ws.set q0 (a, .inl (cA, n, .inl (upd f j y))) = ws') (d : decode cc pc = .ok (.iastore, 1)) (K : kJ p l e R s m args below meth c (gW D A s.heap) nL cells slots Q ws' (pc + 1) lv st) : kJ p l e R s m args below meth c (gW D A s.heap) nL cells slots Q ws pc lv (.int x :: .int i :: .ref a :: st) := fun H locs ls hG hl => va_iast E.1 E.2.1 E.2.2.2.2.2.1.1 hG.1 hG.2.1 hG.2.2 q0 t0 ha ht (by rw [hi]; exact vp_in_nI hj hn) d (fun H1 locs1 hP hD hS => K H1 locs1 ls ⟨by rw [hi, nI_clamp (Nat.lt_trans hj hn), hv] at  hP; exact hw ▸ hP, by rw [hi, nI_clamp (Nat.lt_trans hj hn), hv] at  hD; exact hw ▸ hD, hS⟩ hl)
theorem k_cast (E : kE p s m args c own cc nL D tys (gW D A s.heap)) {a : Nat} {ws' : va_W} (q0 t0 : Nat) {cA : ClassId} {n : Nat} {f : Nat → Int32} (ha : ws[q0]? = some (a, .inl (cA, n, .inl f))) (ht : tys[t0]? = some (cA, .char)) {i : Int32} {j : Nat} {x : Int32} {y : Int32} (hi : i = nI j) (hj : j < n) (hn : n < 2 ^ 31) (hv : vp_nar .char x = y) (hw : ws.set q0 (a, .inl (cA, n, .inl (upd f j y))) = ws') (d : decode cc pc = .ok (.castore, 1)) (K : kJ p l e R s m args below meth c (gW D A s.heap) nL cells slots Q ws' (pc + 1) lv st) : kJ p l e R s m args below meth c (gW D A s.heap) nL cells slots Q ws pc lv (.int x :: .int i :: .ref a :: st) := fun H locs ls hG hl => va_cast E.1 E.2.1 E.2.2.2.2.2.1.1 hG.1 hG.2.1 hG.2.2 q0 t0 ha ht (by rw [hi]; exact vp_in_nI hj hn) d (fun H1 locs1 hP hD hS => K H1 locs1 ls ⟨by rw [hi, nI_clamp (Nat.lt_trans hj hn), hv] at  hP; exact hw ▸ hP, by rw [hi, nI_clamp (Nat.lt_trans hj hn), hv] at  hD; exact hw ▸ hD, hS⟩ hl)
theorem k_zast (E : kE p s m args c own cc nL D tys (gW D A s.heap)) {a : Nat} {ws' : va_W} (q0 t0 : Nat) {cA : ClassId} {n : Nat} {f : Nat → Int32} (ha : ws[q0]? = some (a, .inl (cA, n, .inl f))) (ht : tys[t0]? = some (cA, .boolean)) {i : Int32} {j : Nat} {x : Int32} {y : Int32} (hi : i = nI j) (hj : j < n) (hn : n < 2 ^ 31) (hv : vp_nar .boolean x = y) (hw : ws.set q0 (a, .inl (cA, n, .inl (upd f j y))) = ws') (d : decode cc pc = .ok (.bastore, 1)) (K : kJ p l e R s m args below meth c (gW D A s.heap) nL cells slots Q ws' (pc + 1) lv st) : kJ p l e R s m args below meth c (gW D A s.heap) nL cells slots Q ws pc lv (.int x :: .int i :: .ref a :: st) := fun H locs ls hG hl => va_zast E.1 E.2.1 E.2.2.2.2.2.1.1 hG.1 hG.2.1 hG.2.2 q0 t0 ha ht (by rw [hi]; exact vp_in_nI hj hn) d (fun H1 locs1 hP hD hS => K H1 locs1 ls ⟨by rw [hi, nI_clamp (Nat.lt_trans hj hn), hv] at  hP; exact hw ▸ hP, by rw [hi, nI_clamp (Nat.lt_trans hj hn), hv] at  hD; exact hw ▸ hD, hS⟩ hl)
theorem k_last (E : kE p s m args c own cc nL D tys (gW D A s.heap)) {a : Nat} {ws' : va_W} (q0 t0 : Nat) {cA : ClassId} {n : Nat} {f : Nat → Int64} (ha : ws[q0]? = some (a, .inl (cA, n, .inr (.inl f)))) (ht : tys[t0]? = some (cA, .long)) {i : Int32} {j : Nat} {x : Int64} (hi : i = nI j) (hj : j < n) (hn : n < 2 ^ 31) (hw : ws.set q0 (a, .inl (cA, n, .inr (.inl (vp_updL f j x)))) = ws') (d : decode cc pc = .ok (.lastore, 1)) (K : kJ p l e R s m args below meth c (gW D A s.heap) nL cells slots Q ws' (pc + 1) lv st) : kJ p l e R s m args below meth c (gW D A s.heap) nL cells slots Q ws pc lv (.long x :: .int i :: .ref a :: st) := fun H locs ls hG hl => va_last E.1 E.2.1 E.2.2.2.2.2.1.1 hG.1 hG.2.1 hG.2.2 q0 t0 ha ht (by rw [hi]; exact vp_in_nI hj hn) d (fun H1 locs1 hP hD hS => K H1 locs1 ls ⟨by rw [hi, nI_clamp (Nat.lt_trans hj hn)] at  hP; exact hw ▸ hP, by rw [hi, nI_clamp (Nat.lt_trans hj hn)] at  hD; exact hw ▸ hD, hS⟩ hl)
theorem k_dast (E : kE p s m args c own cc nL D tys (gW D A s.heap)) {a : Nat} {ws' : va_W} (q0 t0 : Nat) {cA : ClassId} {n : Nat} {f : Nat → UInt64} (ha : ws[q0]? = some (a, .inl (cA, n, .inr (.inr (.inr (.inl f)))))) (ht : tys[t0]? = some (cA, .double)) {i : Int32} {j : Nat} {x : UInt64} (hi : i = nI j) (hj : j < n) (hn : n < 2 ^ 31) (hw : ws.set q0 (a, .inl (cA, n, .inr (.inr (.inr (.inl (vf_upd f j x)))))) = ws') (d : decode cc pc = .ok (.dastore, 1)) (K : kJ p l e R s m args below meth c (gW D A s.heap) nL cells slots Q ws' (pc + 1) lv st) : kJ p l e R s m args below meth c (gW D A s.heap) nL cells slots Q ws pc lv (.double x :: .int i :: .ref a :: st) := fun H locs ls hG hl => va_dast E.1 E.2.1 E.2.2.2.2.2.1.1 hG.1 hG.2.1 hG.2.2 q0 t0 ha ht (by rw [hi]; exact vp_in_nI hj hn) d (fun H1 locs1 hP hD hS => K H1 locs1 ls ⟨by rw [hi, nI_clamp (Nat.lt_trans hj hn)] at  hP; exact hw ▸ hP, by rw [hi, nI_clamp (Nat.lt_trans hj hn)] at  hD; exact hw ▸ hD, hS⟩ hl)
theorem mW.of {y : MethodName} {bytes : ByteArray} {ret : Option FieldType} {f lo mc ms : Nat} {av : List Value} {W0 W1 : va_W} {v : Option Value} {lv' : List (Nat × Value)} (hy : plainName y.cls = true) (hlen : (lg_sl av).length ≤ nL) (hlv : lv_args 0 av = lv') (body : ∀ (p : Program) (e : Env) (s : State) (m : MethodId) (args : Array Value) (below : List Frame) (meth : Method) (c : Code), kE p s m args c y.cls bytes nL D tys (gW D (va_A W0 s.heap.size) s.heap) → meth.sig.returnType = ret → meth.locks = false → meth.name = y.name → (∀ q, s.heap.size ≤ q → va_A W0 s.heap.size q) → kJ p l e (kRmc f lo mc ms) s m args below meth c (gW D (va_A W0 s.heap.size) s.heap) nL 0 0 (MQ below (kQw v D W0 W1 s.heap.size) args s mc ms (va_A W0 s.heap.size)) W0 0 lv' []) : mW l y bytes nL ret f lo mc ms D tys av W0 v W1 := by
  intro sz
  refine Met.ofW (cc := bytes) (maxL := nL) (ret := ret) hy rfl ?_
  intro p e s m args below meth c s₁ B hml hv
  obtain ⟨rfl, hsz, hP, hK, hD⟩ := hv
  subst hsz
  have hts := atoms_spec (ws := kws y bytes nL ret) B.pre
  have hown : s.vm.findClass y.cls = some m.cls := findClass_of_methodNamed B.named
  have hl := lv_entry av (n := nL) hlen
  have hin : meth.name = y.name := (name_of_methodNamed B.named B.method).1
  rw [lg_entry_eq]
  exact body p e s m _ below meth c ⟨B.exec, B.bytes, hml, hown, fun w h => hts w (List.mem_cons_of_mem _ h), hK, fun _ _ _ hG => hG.1⟩ B.returns B.notSynchronized hin (fun q h => Or.inr h) s.heap [] _ ⟨hP, hD.self, va_S.rf⟩ (hlv ▸ hl)
theorem mX.of {y : MethodName} {bytes : ByteArray} {ret : Option FieldType} {f lo mc ms : Nat} {av : List Value} {W0 : va_W} {out : (Option Value × va_W) ⊕ String} {lv' : List (Nat × Value)} (hy : plainName y.cls = true) (hlen : (lg_sl av).length ≤ nL) (hlv : lv_args 0 av = lv') (body : ∀ (p : Program) (e : Env) (s : State) (m : MethodId) (args : Array Value) (below : List Frame) (meth : Method) (c : Code), kE p s m args c y.cls bytes nL D tys (gW D (va_A W0 s.heap.size) s.heap) → meth.sig.returnType = ret → meth.locks = false → (∀ x ∈ c.exceptionTable.toList, False) → kZ (va_A W0 s.heap.size) s s.heap → (∀ q, s.heap.size ≤ q → va_A W0 s.heap.size q) → kJ p l e (kRmc f lo mc ms) s m args below meth c (gW D (va_A W0 s.heap.size) s.heap) nL 0 0 (vx_MQ below (kXq out D W0 s.heap.size) (kXc out D W0 s.heap.size) args s mc ms (va_A W0 s.heap.size)) W0 0 lv' []) : mX l y bytes nL ret f lo mc ms D tys av W0 out := by
  intro sz
  refine vx_ofW (cc := bytes) (maxL := nL) (ret := ret) hy rfl ?_
  intro p e s m args below meth c s₁ B hml hex hv
  obtain ⟨rfl, hsz, hP, hK, hD, hZ⟩ := hv
  subst hsz
  have hts := atoms_spec (ws := kws y bytes nL ret) B.pre
  have hown : s.vm.findClass y.cls = some m.cls := findClass_of_methodNamed B.named
  have hl := lv_entry av (n := nL) hlen
  rw [lg_entry_eq]
  exact body p e s m _ below meth c ⟨B.exec, B.bytes, hml, hown, fun w h => hts w (List.mem_cons_of_mem _ h), hK, fun _ _ _ hG => hG.1⟩ B.returns B.notSynchronized hex hZ (fun q h => Or.inr h) s.heap [] _ ⟨hP, hD.self, va_S.rf⟩ (hlv ▸ hl)
theorem mH.of {y : MethodName} {bytes : ByteArray} {ret : Option FieldType} {hh : List (Nat × Nat × Nat × Nat)} {f lo mc ms : Nat} {av : List Value} {W0 : va_W} {out : (Option Value × va_W) ⊕ String} {lv' : List (Nat × Value)} (hy : plainName y.cls = true) (hlen : (lg_sl av).length ≤ nL) (hlv : lv_args 0 av = lv') (body : ∀ (p : Program) (e : Env) (s : State) (m : MethodId) (args : Array Value) (below : List Frame) (meth : Method) (c : Code), kE p s m args c y.cls bytes nL D tys (gW D (va_A W0 s.heap.size) s.heap) → meth.sig.returnType = ret → meth.locks = false → c.exceptionTable.toList = tableOf hh → kZ (va_A W0 s.heap.size) s s.heap → (∀ q, s.heap.size ≤ q → va_A W0 s.heap.size q) → kJ p l e (kRmc f lo mc ms) s m args below meth c (gW D (va_A W0 s.heap.size) s.heap) nL 0 0 (vx_MQ below (kXq out D W0 s.heap.size) (kXc out D W0 s.heap.size) args s mc ms (va_A W0 s.heap.size)) W0 0 lv' []) : mH l y bytes nL ret hh f lo mc ms D tys av W0 out := by
  intro sz
  refine vx_ofWH (cc := bytes) (maxL := nL) (ret := ret) (hh := hh) hy rfl ?_
  intro p e s m args below meth c s₁ B hml hv
  obtain ⟨rfl, hsz, hP, hK, hD, hZ⟩ := hv
  subst hsz
  have hts := atoms_spec (ws := kwsH y bytes nL ret hh) B.pre
  have hown : s.vm.findClass y.cls = some m.cls := findClass_of_methodNamed B.named
  have htab : c.exceptionTable.toList = tableOf hh := vx_table (x := y) B (hts _ List.mem_cons_self)
  have hl := lv_entry av (n := nL) hlen
  rw [lg_entry_eq]
  exact body p e s m _ below meth c ⟨B.exec, B.bytes, hml, hown, fun w h => hts w (List.mem_cons_of_mem _ h), hK, fun _ _ _ hG => hG.1⟩ B.returns B.notSynchronized htab hZ (fun q h => Or.inr h) s.heap [] _ ⟨hP, hD.self, va_S.rf⟩ (hlv ▸ hl)

theorem kw_iret {W0 W1 : va_W} {v : Option Value} {mc ms : Nat} (E : kE p s m args c own cc nL D tys (gW D (va_A W0 s.heap.size) s.heap)) {x : Int32} (hr : meth.sig.returnType = some .int) (hlk : meth.locks = false) (hv : some (Value.int x) = v) (hw : ws = W1) (hc : cells ≤ mc) (hs : slots ≤ ms) (d : decode cc pc = .ok (.ireturn, 1)) : kJ p l e R s m args below meth c (gW D (va_A W0 s.heap.size) s.heap) nL cells slots (MQ below (kQw v D W0 W1 s.heap.size) args s mc ms (va_A W0 s.heap.size)) ws pc lv [.int x] := by
  intro H locs ls hG hl
  obtain ⟨hP, hD, hS⟩ := hG
  subst hw
  refine W.widen hc hs ?_
  exact W.iret E.1 E.2.1 hr (fun t ht hW => ⟨by rw [hv], by rw [ht]; exact hP, hD, hS.F ht⟩) hS.2.2 d hlk
theorem kx_iret {W0 W1 : va_W} {v : Option Value} {out : (Option Value × va_W) ⊕ String} {mc ms : Nat} (E : kE p s m args c own cc nL D tys (gW D (va_A W0 s.heap.size) s.heap)) {x : Int32} (hr : meth.sig.returnType = some .int) (hlk : meth.locks = false) (ho : out = .inl (v, W1)) (hv : some (Value.int x) = v) (hw : ws = W1) (hc : cells ≤ mc) (hs : slots ≤ ms) (d : decode cc pc = .ok (.ireturn, 1)) : kJ p l e R s m args below meth c (gW D (va_A W0 s.heap.size) s.heap) nL cells slots (vx_MQ below (kXq out D W0 s.heap.size) (kXc out D W0 s.heap.size) args s mc ms (va_A W0 s.heap.size)) ws pc lv [.int x] := by
  intro H locs ls hG hl
  obtain ⟨hP, hD, hS⟩ := hG
  subst hw
  refine W.widen hc hs (vx_ret ?_)
  exact W.iret E.1 E.2.1 hr (fun t ht hW => ⟨_, _, ho, by rw [hv], by rw [ht]; exact hP, hD, hS.F ht⟩) hS.2.2 d hlk
theorem kw_zret {W0 W1 : va_W} {v : Option Value} {mc ms : Nat} (E : kE p s m args c own cc nL D tys (gW D (va_A W0 s.heap.size) s.heap)) {x : Int32} {ty : FieldType} (hn : narrow ty (.int x) = .int x) (hr : meth.sig.returnType = some ty) (hlk : meth.locks = false) (hv : some (Value.int x) = v) (hw : ws = W1) (hc : cells ≤ mc) (hs : slots ≤ ms) (d : decode cc pc = .ok (.ireturn, 1)) : kJ p l e R s m args below meth c (gW D (va_A W0 s.heap.size) s.heap) nL cells slots (MQ below (kQw v D W0 W1 s.heap.size) args s mc ms (va_A W0 s.heap.size)) ws pc lv [.int x] := by
  intro H locs ls hG hl
  obtain ⟨hP, hD, hS⟩ := hG
  subst hw
  refine W.widen hc hs ?_
  exact W.zret E.1 E.2.1 hr hn (fun t ht hW => ⟨by rw [hv], by rw [ht]; exact hP, hD, hS.F ht⟩) hS.2.2 d hlk
theorem kx_zret {W0 W1 : va_W} {v : Option Value} {out : (Option Value × va_W) ⊕ String} {mc ms : Nat} (E : kE p s m args c own cc nL D tys (gW D (va_A W0 s.heap.size) s.heap)) {x : Int32} {ty : FieldType} (hn : narrow ty (.int x) = .int x) (hr : meth.sig.returnType = some ty) (hlk : meth.locks = false) (ho : out = .inl (v, W1)) (hv : some (Value.int x) = v) (hw : ws = W1) (hc : cells ≤ mc) (hs : slots ≤ ms) (d : decode cc pc = .ok (.ireturn, 1)) : kJ p l e R s m args below meth c (gW D (va_A W0 s.heap.size) s.heap) nL cells slots (vx_MQ below (kXq out D W0 s.heap.size) (kXc out D W0 s.heap.size) args s mc ms (va_A W0 s.heap.size)) ws pc lv [.int x] := by
  intro H locs ls hG hl
  obtain ⟨hP, hD, hS⟩ := hG
  subst hw
  refine W.widen hc hs (vx_ret ?_)
  exact W.zret E.1 E.2.1 hr hn (fun t ht hW => ⟨_, _, ho, by rw [hv], by rw [ht]; exact hP, hD, hS.F ht⟩) hS.2.2 d hlk
theorem kw_lret {W0 W1 : va_W} {v : Option Value} {mc ms : Nat} (E : kE p s m args c own cc nL D tys (gW D (va_A W0 s.heap.size) s.heap)) {x : Int64} (hr : meth.sig.returnType = some .long) (hlk : meth.locks = false) (hv : some (Value.long x) = v) (hw : ws = W1) (hc : cells ≤ mc) (hs : slots ≤ ms) (d : decode cc pc = .ok (.lreturn, 1)) : kJ p l e R s m args below meth c (gW D (va_A W0 s.heap.size) s.heap) nL cells slots (MQ below (kQw v D W0 W1 s.heap.size) args s mc ms (va_A W0 s.heap.size)) ws pc lv [.long x] := by
  intro H locs ls hG hl
  obtain ⟨hP, hD, hS⟩ := hG
  subst hw
  refine W.widen hc hs ?_
  exact W.lret E.1 E.2.1 hr (fun t ht hW => ⟨by rw [hv], by rw [ht]; exact hP, hD, hS.F ht⟩) hS.2.2 d hlk
theorem kx_lret {W0 W1 : va_W} {v : Option Value} {out : (Option Value × va_W) ⊕ String} {mc ms : Nat} (E : kE p s m args c own cc nL D tys (gW D (va_A W0 s.heap.size) s.heap)) {x : Int64} (hr : meth.sig.returnType = some .long) (hlk : meth.locks = false) (ho : out = .inl (v, W1)) (hv : some (Value.long x) = v) (hw : ws = W1) (hc : cells ≤ mc) (hs : slots ≤ ms) (d : decode cc pc = .ok (.lreturn, 1)) : kJ p l e R s m args below meth c (gW D (va_A W0 s.heap.size) s.heap) nL cells slots (vx_MQ below (kXq out D W0 s.heap.size) (kXc out D W0 s.heap.size) args s mc ms (va_A W0 s.heap.size)) ws pc lv [.long x] := by
  intro H locs ls hG hl
  obtain ⟨hP, hD, hS⟩ := hG
  subst hw
  refine W.widen hc hs (vx_ret ?_)
  exact W.lret E.1 E.2.1 hr (fun t ht hW => ⟨_, _, ho, by rw [hv], by rw [ht]; exact hP, hD, hS.F ht⟩) hS.2.2 d hlk
theorem kw_fret {W0 W1 : va_W} {v : Option Value} {mc ms : Nat} (E : kE p s m args c own cc nL D tys (gW D (va_A W0 s.heap.size) s.heap)) {x : UInt32} (hr : meth.sig.returnType = some .float) (hlk : meth.locks = false) (hv : some (Value.float x) = v) (hw : ws = W1) (hc : cells ≤ mc) (hs : slots ≤ ms) (d : decode cc pc = .ok (.freturn, 1)) : kJ p l e R s m args below meth c (gW D (va_A W0 s.heap.size) s.heap) nL cells slots (MQ below (kQw v D W0 W1 s.heap.size) args s mc ms (va_A W0 s.heap.size)) ws pc lv [.float x] := by
  intro H locs ls hG hl
  obtain ⟨hP, hD, hS⟩ := hG
  subst hw
  refine W.widen hc hs ?_
  exact W.fret E.1 E.2.1 hr (fun t ht hW => ⟨by rw [hv], by rw [ht]; exact hP, hD, hS.F ht⟩) hS.2.2 d hlk
theorem kx_fret {W0 W1 : va_W} {v : Option Value} {out : (Option Value × va_W) ⊕ String} {mc ms : Nat} (E : kE p s m args c own cc nL D tys (gW D (va_A W0 s.heap.size) s.heap)) {x : UInt32} (hr : meth.sig.returnType = some .float) (hlk : meth.locks = false) (ho : out = .inl (v, W1)) (hv : some (Value.float x) = v) (hw : ws = W1) (hc : cells ≤ mc) (hs : slots ≤ ms) (d : decode cc pc = .ok (.freturn, 1)) : kJ p l e R s m args below meth c (gW D (va_A W0 s.heap.size) s.heap) nL cells slots (vx_MQ below (kXq out D W0 s.heap.size) (kXc out D W0 s.heap.size) args s mc ms (va_A W0 s.heap.size)) ws pc lv [.float x] := by
  intro H locs ls hG hl
  obtain ⟨hP, hD, hS⟩ := hG
  subst hw
  refine W.widen hc hs (vx_ret ?_)
  exact W.fret E.1 E.2.1 hr (fun t ht hW => ⟨_, _, ho, by rw [hv], by rw [ht]; exact hP, hD, hS.F ht⟩) hS.2.2 d hlk
theorem kw_dret {W0 W1 : va_W} {v : Option Value} {mc ms : Nat} (E : kE p s m args c own cc nL D tys (gW D (va_A W0 s.heap.size) s.heap)) {x : UInt64} (hr : meth.sig.returnType = some .double) (hlk : meth.locks = false) (hv : some (Value.double x) = v) (hw : ws = W1) (hc : cells ≤ mc) (hs : slots ≤ ms) (d : decode cc pc = .ok (.dreturn, 1)) : kJ p l e R s m args below meth c (gW D (va_A W0 s.heap.size) s.heap) nL cells slots (MQ below (kQw v D W0 W1 s.heap.size) args s mc ms (va_A W0 s.heap.size)) ws pc lv [.double x] := by
  intro H locs ls hG hl
  obtain ⟨hP, hD, hS⟩ := hG
  subst hw
  refine W.widen hc hs ?_
  exact W.dret E.1 E.2.1 hr (fun t ht hW => ⟨by rw [hv], by rw [ht]; exact hP, hD, hS.F ht⟩) hS.2.2 d hlk
theorem kx_dret {W0 W1 : va_W} {v : Option Value} {out : (Option Value × va_W) ⊕ String} {mc ms : Nat} (E : kE p s m args c own cc nL D tys (gW D (va_A W0 s.heap.size) s.heap)) {x : UInt64} (hr : meth.sig.returnType = some .double) (hlk : meth.locks = false) (ho : out = .inl (v, W1)) (hv : some (Value.double x) = v) (hw : ws = W1) (hc : cells ≤ mc) (hs : slots ≤ ms) (d : decode cc pc = .ok (.dreturn, 1)) : kJ p l e R s m args below meth c (gW D (va_A W0 s.heap.size) s.heap) nL cells slots (vx_MQ below (kXq out D W0 s.heap.size) (kXc out D W0 s.heap.size) args s mc ms (va_A W0 s.heap.size)) ws pc lv [.double x] := by
  intro H locs ls hG hl
  obtain ⟨hP, hD, hS⟩ := hG
  subst hw
  refine W.widen hc hs (vx_ret ?_)
  exact W.dret E.1 E.2.1 hr (fun t ht hW => ⟨_, _, ho, by rw [hv], by rw [ht]; exact hP, hD, hS.F ht⟩) hS.2.2 d hlk
theorem kw_vret {W0 W1 : va_W} {v : Option Value} {mc ms : Nat} (E : kE p s m args c own cc nL D tys (gW D (va_A W0 s.heap.size) s.heap)) (hr : meth.sig.returnType = none) (hlk : meth.locks = false) (hv : none = v) (hw : ws = W1) (hc : cells ≤ mc) (hs : slots ≤ ms) (d : decode cc pc = .ok (.return_, 1)) : kJ p l e R s m args below meth c (gW D (va_A W0 s.heap.size) s.heap) nL cells slots (MQ below (kQw v D W0 W1 s.heap.size) args s mc ms (va_A W0 s.heap.size)) ws pc lv [] := by
  intro H locs ls hG hl
  obtain ⟨hP, hD, hS⟩ := hG
  subst hw
  refine W.widen hc hs ?_
  exact W.vret E.1 E.2.1 hr (fun t ht hW => ⟨by rw [hv], by rw [ht]; exact hP, hD, hS.F ht⟩) hS.2.2 d hlk
theorem kx_vret {W0 W1 : va_W} {v : Option Value} {out : (Option Value × va_W) ⊕ String} {mc ms : Nat} (E : kE p s m args c own cc nL D tys (gW D (va_A W0 s.heap.size) s.heap)) (hr : meth.sig.returnType = none) (hlk : meth.locks = false) (ho : out = .inl (v, W1)) (hv : none = v) (hw : ws = W1) (hc : cells ≤ mc) (hs : slots ≤ ms) (d : decode cc pc = .ok (.return_, 1)) : kJ p l e R s m args below meth c (gW D (va_A W0 s.heap.size) s.heap) nL cells slots (vx_MQ below (kXq out D W0 s.heap.size) (kXc out D W0 s.heap.size) args s mc ms (va_A W0 s.heap.size)) ws pc lv [] := by
  intro H locs ls hG hl
  obtain ⟨hP, hD, hS⟩ := hG
  subst hw
  refine W.widen hc hs (vx_ret ?_)
  exact W.vret E.1 E.2.1 hr (fun t ht hW => ⟨_, _, ho, by rw [hv], by rw [ht]; exact hP, hD, hS.F ht⟩) hS.2.2 d hlk
theorem kRun_W {v : Option Value} {a : Array Value} {st0 : List Value} {pre post Wc W1 : va_W} {mc ms : Nat} (hws : ws = pre ++ (Wc ++ post)) {ws' : va_W} (hws' : pre ++ (W1 ++ post) = ws') (hA : ∀ q, s.heap.size ≤ q → A q) (hr : ∀ (H : Heap) (locs : List Loc) (ls : Array Slot), gW D A s.heap ws H locs → lv_has ls nL lv → va_Run p l e R s m args below meth c H locs cells slots mc ms (F0 m pc ls st0) st (kQw v D Wc W1 H.size a) (va_A Wc H.size)) (K : kJ p l e R s m args below meth c (gW D A s.heap) nL (cells + mc) (slots + ms) Q ws' (pc + 3) lv (v.toList ++ st)) : kJ p l e R s m args below meth c (gW D A s.heap) nL cells slots Q ws pc lv st0 := by
  intro H locs ls hG hl T hT X
  obtain ⟨v', st₀, t, T', L, h0, X', hL, e1, e2, ⟨ho, hP1, hD1, hF1⟩, stp⟩ := hr H locs ls hG hl T hT X
  cases ho
  obtain ⟨hP, hD, hS⟩ := hG
  subst hws
  have hFc := k_freeM hD hS hA
  obtain ⟨k1, k2, k3⟩ := vx_keep h0 e1 hS (fun q _ h => hFc q h) hFc hL hF1
  rw [← e1] at hP1
  obtain ⟨hP2, hD2⟩ := k_mid hP hD k2 hFc hP1 hD1
  obtain ⟨t2, a1, b1⟩ := K T'.heap _ ls ⟨hws' ▸ hP2, hws' ▸ hD2, k3⟩ hl T' rfl X'
  exact ⟨t2, stp t2 a1, b1⟩
theorem kFBw {av : List Value} {W0 : va_W} {sz : Nat} : FrameBlind (va_Pc av (fun U => U.heap.size = sz ∧ va_P D kCl W0 U.heap ∧ kK D tys U ∧ va_D (fun _ => True) W0)) := fun a U g mk q => ⟨q.1, q.2.1, q.2.2.1, kK.calling q.2.2.2.1, q.2.2.2.2⟩
theorem kZ.calling {A : Nat → Prop} {U : State} {g : JFrame} {mk : MethodId} {a : Array Value} (h : kZ A U U.heap) : kZ A (U.calling g mk a) (U.calling g mk a).heap := ⟨vx_Zq.moved (u := U) (U := U.calling g mk a) (Vm.Alike.refl U.vm) h.1, vx_Zq.moved (u := U) (U := U.calling g mk a) (Vm.Alike.refl U.vm) h.2⟩
theorem kFBx {av : List Value} {W0 : va_W} {sz : Nat} : FrameBlind (kPx av D tys W0 sz) := fun a U g mk q => ⟨q.1, q.2.1, q.2.2.1, kK.calling q.2.2.2.1, q.2.2.2.2.1, kZ.calling q.2.2.2.2.2⟩
theorem k_callWV {y : MethodName} {bytes : ByteArray} {maxL f lo n idx b ci mc ms : Nat} {ret : Option FieldType} {Wc W1 : va_W} {v : Option Value} {fs : List Value} {T : u_T} {N : Nat} {st0 : List Value} (As : List Value) (E : kE p s m args c own cc nL D tys (gW D A s.heap)) (hA : ∀ q, s.heap.size ≤ q → A q) (hM : mW l y bytes maxL ret f lo mc ms D tys (.ref b :: As) Wc v W1) (F : kCF y bytes maxL ret n) (hlk : Cond.methodLink own idx y ∈ lw_all) (pre post : va_W) {ws' : va_W} (hws : ws = pre ++ (Wc ++ post)) (hws' : pre ++ (W1 ++ post) = ws') (q0 : Nat) (he : ws[q0]? = some (b, .inr (ci, fs))) (hci : kCl[ci]? = some (y.cls, T, N)) (hst : st0 = As.reverse ++ .ref b :: st) (hn : As.length = n) (hR : f + 1 ≤ R.frames ∧ 8 + (maxL + 11) + lo ≤ R.locals) (hcat : (st.map fun v => v.category).sum ≤ 8) (hc : cells + mc ≤ R.cells ∧ slots + ms ≤ R.slots) (d : decode cc pc = .ok (.invokevirtual idx, 3)) (K : kJ p l e R s m args below meth c (gW D A s.heap) nL (cells + mc) (slots + ms) Q ws' (pc + 3) lv (v.toList ++ st)) : kJ p l e R s m args below meth c (gW D A s.heap) nL cells slots Q ws pc lv st0 := by
  subst hst
  refine kRun_W (a := (Value.ref b :: As).toArray) hws hws' hA (fun H locs ls hG hl => ?_) K
  exact va_runV (nL := nL) (g := F0 m pc ls _) ⟨E.1, E.2.1, E.2.2.1, E.2.2.2.1, E.2.2.2.2.1⟩ (hM H.size) (cwV n E.2.2.2.2.1 (kV_in F hlk) rfl rfl rfl ⟨rfl, F.2.2.2.2.1.1, F.2.2.2.2.1.2, F.2.2.2.2.2⟩ hR) ⟨kFBw, va_recv E.2.2.2.2.2.1.1 hG.1 hci he, fun U hU hW => ⟨rfl, by rw [hU], by rw [hU]; exact kPs (hws ▸ hG.1), kK.moved hW E.2.2.2.2.2.1, (kDs (hws ▸ hG.2.1)).weaken (fun _ _ _ _ => trivial)⟩⟩ rfl hn hl.1 rfl (lv_room hcat) d hc
theorem k_callWVN {y : MethodName} {bytes : ByteArray} {maxL f lo n idx b ci mc ms : Nat} {ret : Option FieldType} {Wc W1 : va_W} {v : Option Value} {fs : List Value} {T : u_T} {N : Nat} {st0 : List Value} (As : List Value) (E : kE p s m args c own cc nL D tys (gW D A s.heap)) (hA : ∀ q, s.heap.size ≤ q → A q) (hM : mW l y bytes maxL ret f lo mc ms D tys (.ref b :: As) Wc v W1) (F : kCF y bytes maxL ret n) (hown : own = RX2) (hlk : (idx, y) ∈ kNM) (pre post : va_W) {ws' : va_W} (hws : ws = pre ++ (Wc ++ post)) (hws' : pre ++ (W1 ++ post) = ws') (q0 : Nat) (he : ws[q0]? = some (b, .inr (ci, fs))) (hci : kCl[ci]? = some (y.cls, T, N)) (hst : st0 = As.reverse ++ .ref b :: st) (hn : As.length = n) (hR : f + 1 ≤ R.frames ∧ 8 + (maxL + 11) + lo ≤ R.locals) (hcat : (st.map fun v => v.category).sum ≤ 8) (hc : cells + mc ≤ R.cells ∧ slots + ms ≤ R.slots) (d : decode cc pc = .ok (.invokevirtual idx, 3)) (K : kJ p l e R s m args below meth c (gW D A s.heap) nL (cells + mc) (slots + ms) Q ws' (pc + 3) lv (v.toList ++ st)) : kJ p l e R s m args below meth c (gW D A s.heap) nL cells slots Q ws pc lv st0 := by
  subst hst
  subst hown
  refine kRun_W (a := (Value.ref b :: As).toArray) hws hws' hA (fun H locs ls hG hl => ?_) K
  exact va_runVN (nL := nL) (g := F0 m pc ls _) ⟨E.1, E.2.1, E.2.2.1, E.2.2.2.1, E.2.2.2.2.1⟩ (hM H.size) ⟨va_cnB n E.2.2.2.2.1 (kws_in F.1) rfl rfl rfl (E.2.2.2.2.2.1.2.2.1 _ hlk) (E.2.2.2.2.1 _ F.2.2.2.1) ⟨F.2.2.2.2.1.1, F.2.2.2.2.1.2, F.2.2.2.2.2⟩ hR, E.2.2.2.2.1 _ F.2.1, E.2.2.2.2.1 _ F.2.2.1⟩ ⟨kFBw, va_recv E.2.2.2.2.2.1.1 hG.1 hci he, fun U hU hW => ⟨rfl, by rw [hU], by rw [hU]; exact kPs (hws ▸ hG.1), kK.moved hW E.2.2.2.2.2.1, (kDs (hws ▸ hG.2.1)).weaken (fun _ _ _ _ => trivial)⟩⟩ rfl hn hl.1 rfl (lv_room hcat) d hc
theorem k_callI {y : MethodName} {bytes : ByteArray} {maxL f lo n idx b mc ms : Nat} {Wc W1 : va_W} {st0 : List Value} (As : List Value) (E : kE p s m args c own cc nL D tys (gW D A s.heap)) (hA : ∀ q, s.heap.size ≤ q → A q) (hM : mW l y bytes maxL none f lo mc ms D tys (.ref b :: As) Wc none W1) (F : kCI y bytes maxL n) (hlk : Cond.methodLink own idx y ∈ lw_all) (pre post : va_W) {ws' : va_W} (hws : ws = pre ++ (Wc ++ post)) (hws' : pre ++ (W1 ++ post) = ws') (hst : st0 = As.reverse ++ .ref b :: st) (hn : As.length = n) (hR : f + 1 ≤ R.frames ∧ 8 + (maxL + 11) + lo ≤ R.locals) (hcat : (st.map fun v => v.category).sum ≤ 8) (hc : cells + mc ≤ R.cells ∧ slots + ms ≤ R.slots) (d : decode cc pc = .ok (.invokespecial idx, 3)) (K : kJ p l e R s m args below meth c (gW D A s.heap) nL (cells + mc) (slots + ms) Q ws' (pc + 3) lv st) : kJ p l e R s m args below meth c (gW D A s.heap) nL cells slots Q ws pc lv st0 := by
  subst hst
  refine kRun_W (v := none) (a := (Value.ref b :: As).toArray) hws hws' hA (fun H locs ls hG hl => ?_) K
  exact va_runI (nL := nL) (g := F0 m pc ls _) ⟨E.1, E.2.1, E.2.2.1, E.2.2.2.1, E.2.2.2.2.1⟩ (hM H.size) (cwI n E.2.2.2.2.1 (kws_in F.1) rfl rfl rfl (E.2.2.2.2.1 _ F.2.2.1) (E.2.2.2.2.1 _ hlk) (E.2.2.2.2.1 _ F.2.1) F.2.2.2.1 ⟨F.2.2.2.2.1.1, F.2.2.2.2.1.2, F.2.2.2.2.2⟩ hR) ⟨kFBw, fun U hU hW => ⟨rfl, by rw [hU], by rw [hU]; exact kPs (hws ▸ hG.1), kK.moved hW E.2.2.2.2.2.1, (kDs (hws ▸ hG.2.1)).weaken (fun _ _ _ _ => trivial)⟩⟩ rfl hn hl.1 rfl (lv_room hcat) d hc
theorem k_callIN {y : MethodName} {bytes : ByteArray} {maxL f lo n idx b mc ms : Nat} {Wc W1 : va_W} {st0 : List Value} (As : List Value) (E : kE p s m args c own cc nL D tys (gW D A s.heap)) (hA : ∀ q, s.heap.size ≤ q → A q) (hM : mW l y bytes maxL none f lo mc ms D tys (.ref b :: As) Wc none W1) (F : kCI y bytes maxL n) (hown : own = RX2) (hlk : (idx, y) ∈ kNM) (pre post : va_W) {ws' : va_W} (hws : ws = pre ++ (Wc ++ post)) (hws' : pre ++ (W1 ++ post) = ws') (hst : st0 = As.reverse ++ .ref b :: st) (hn : As.length = n) (hR : f + 1 ≤ R.frames ∧ 8 + (maxL + 11) + lo ≤ R.locals) (hcat : (st.map fun v => v.category).sum ≤ 8) (hc : cells + mc ≤ R.cells ∧ slots + ms ≤ R.slots) (d : decode cc pc = .ok (.invokespecial idx, 3)) (K : kJ p l e R s m args below meth c (gW D A s.heap) nL (cells + mc) (slots + ms) Q ws' (pc + 3) lv st) : kJ p l e R s m args below meth c (gW D A s.heap) nL cells slots Q ws pc lv st0 := by
  subst hst
  subst hown
  refine kRun_W (v := none) (a := (Value.ref b :: As).toArray) hws hws' hA (fun H locs ls hG hl => ?_) K
  exact va_runIN (nL := nL) (g := F0 m pc ls _) ⟨E.1, E.2.1, E.2.2.1, E.2.2.2.1, E.2.2.2.2.1⟩ (hM H.size) ⟨va_cnB n E.2.2.2.2.1 (kws_in F.1) rfl rfl rfl (E.2.2.2.2.2.1.2.2.1 _ hlk) (E.2.2.2.2.1 _ F.2.2.1) ⟨F.2.2.2.2.1.1, F.2.2.2.2.1.2, F.2.2.2.2.2⟩ hR, F.2.2.2.1, E.2.2.2.2.1 _ F.2.1⟩ ⟨kFBw, fun U hU hW => ⟨rfl, by rw [hU], by rw [hU]; exact kPs (hws ▸ hG.1), kK.moved hW E.2.2.2.2.2.1, (kDs (hws ▸ hG.2.1)).weaken (fun _ _ _ _ => trivial)⟩⟩ rfl hn hl.1 rfl (lv_room hcat) d hc
theorem kRun_X {a : Array Value} {st0 : List Value} {pre post Wc : va_W} {out : (Option Value × va_W) ⊕ String} {mc ms : Nat} (hws : ws = pre ++ (Wc ++ post)) (hA : ∀ q, s.heap.size ≤ q → A q) (hr : ∀ (H : Heap) (locs : List Loc) (ls : Array Slot), gW D A s.heap ws H locs → lv_has ls nL lv → vx_Run p l e R s m args below meth c H locs cells slots mc ms (F0 m pc ls st0) st (kXq out D Wc H.size a) (kXc out D Wc H.size) (va_A Wc H.size)) (KK : ∀ (v : Option Value) (W1 : va_W), out = .inl (v, W1) → kJ p l e R s m args below meth c (gW D A s.heap) nL (cells + mc) (slots + ms) Q (pre ++ (W1 ++ post)) (pc + 3) lv (v.toList ++ st)) (KT : ∀ X : String, out = .inr X → kX p l e R s m args below meth c (gW D A s.heap) nL (cells + mc) (slots + ms) Q ws pc lv st X) : kJ p l e R s m args below meth c (gW D A s.heap) nL cells slots Q ws pc lv st0 := by
  intro H locs ls hG hl T hT X
  rcases hr H locs ls hG hl T hT X with ⟨v', st₀, t, T', L, h0, X', hL, e1, e2, ⟨v, W1, ho, hv, hP1, hD1, hF1⟩, stp⟩ | ⟨q, st₀, t, T', L, E, ce, h0, X', hL, e1, e2, ⟨ho, hP1, hD1, hF1⟩, hce, hcv, hcl, stp⟩
  · cases hv
    obtain ⟨hP, hD, hS⟩ := hG
    subst hws
    have hFc := k_freeM hD hS hA
    obtain ⟨k1, k2, k3⟩ := vx_keep h0 e1 hS (fun q _ h => hFc q h) hFc hL hF1
    rw [← e1] at hP1
    obtain ⟨hP2, hD2⟩ := k_mid hP hD k2 hFc hP1 hD1
    obtain ⟨t2, a1, b1⟩ := KK _ _ ho T'.heap _ ls ⟨hP2, hD2, k3⟩ hl T' rfl X'
    exact ⟨t2, stp t2 a1, b1⟩
  · obtain ⟨hP, hD, hS⟩ := hG
    have hP' := hP
    have hD' := hD
    rw [hws] at hP' hD'
    have hFc := k_freeM hD' hS hA
    obtain ⟨k1, k2, k3⟩ := vx_keep h0 e1 hS (fun q _ h => hFc q h) hFc hL hF1
    rw [← e1] at hP1
    obtain ⟨hP2, hD2⟩ := k_mid hP' hD' k2 hFc hP1 hD1
    obtain ⟨t2, a1, b1⟩ := KT E ho T'.heap (locs ++ L) ls q ce ⟨hws ▸ hP2, hws ▸ hD2, k3⟩ hl (by rw [e1]; exact hce) hcv hcl T' rfl X'
    exact ⟨t2, stp.trans a1, b1⟩
theorem k_callXV {y : MethodName} {bytes : ByteArray} {maxL f lo n idx b ci mc ms : Nat} {ret : Option FieldType} {Wc : va_W} {out : (Option Value × va_W) ⊕ String} {fs : List Value} {T : u_T} {N : Nat} {st0 : List Value} (As : List Value) (E : kE p s m args c own cc nL D tys (gW D A s.heap)) (hA : ∀ q, s.heap.size ≤ q → A q) (hZ : kZ A s s.heap) (hM : mX l y bytes maxL ret f lo mc ms D tys (.ref b :: As) Wc out) (F : kCF y bytes maxL ret n) (hlk : Cond.methodLink own idx y ∈ lw_all) (pre post : va_W) (hws : ws = pre ++ (Wc ++ post)) (q0 : Nat) (he : ws[q0]? = some (b, .inr (ci, fs))) (hci : kCl[ci]? = some (y.cls, T, N)) (hst : st0 = As.reverse ++ .ref b :: st) (hn : As.length = n) (hR : f + 1 ≤ R.frames ∧ 8 + (maxL + 11) + lo ≤ R.locals) (hcat : (st.map fun v => v.category).sum ≤ 8) (hc : cells + mc ≤ R.cells ∧ slots + ms ≤ R.slots) (d : decode cc pc = .ok (.invokevirtual idx, 3)) (KK : ∀ (v : Option Value) (W1 : va_W), out = .inl (v, W1) → kJ p l e R s m args below meth c (gW D A s.heap) nL (cells + mc) (slots + ms) Q (pre ++ (W1 ++ post)) (pc + 3) lv (v.toList ++ st)) (KT : ∀ X : String, out = .inr X → kX p l e R s m args below meth c (gW D A s.heap) nL (cells + mc) (slots + ms) Q ws pc lv st X) : kJ p l e R s m args below meth c (gW D A s.heap) nL cells slots Q ws pc lv st0 := by
  subst hst
  refine kRun_X (a := (Value.ref b :: As).toArray) hws hA (fun H locs ls hG hl => ?_) KK KT
  exact vx_runV (nL := nL) (g := F0 m pc ls _) ⟨E.1, E.2.1, E.2.2.1, E.2.2.2.1, E.2.2.2.2.1⟩ (hM H.size) (cwV n E.2.2.2.2.1 (kV_in F hlk) rfl rfl rfl ⟨rfl, F.2.2.2.2.1.1, F.2.2.2.2.1.2, F.2.2.2.2.2⟩ hR) ⟨kFBx, va_recv E.2.2.2.2.2.1.1 hG.1 hci he, fun U hU hW => ⟨rfl, by rw [hU], by rw [hU]; exact kPs (hws ▸ hG.1), kK.moved hW E.2.2.2.2.2.1, (kDs (hws ▸ hG.2.1)).weaken (fun _ _ _ _ => trivial), kZ.go hZ hG.2.2 hU hW (k_freeM (hws ▸ hG.2.1) hG.2.2 hA)⟩⟩ rfl hn hl.1 rfl (lv_room hcat) d hc
theorem k_xout {W0 : va_W} {out : (Option Value × va_W) ⊕ String} {mc ms : Nat} {X : String} (hlk : meth.locks = false) (hex : ∀ x ∈ c.exceptionTable.toList, False) (ho : out = .inr X) (hw : ws = W0) (hc : cells ≤ mc) (hs : slots ≤ ms) : kX p l e R s m args below meth c (gW D (va_A W0 s.heap.size) s.heap) nL cells slots (vx_MQ below (kXq out D W0 s.heap.size) (kXc out D W0 s.heap.size) args s mc ms (va_A W0 s.heap.size)) ws pc lv st X := by
  intro H locs ls q ce hG hl hce hcv hcl
  obtain ⟨hP, hD, hS⟩ := hG
  subst hw
  exact vx_out (fun x hx => (hex x hx).elim) hlk hce hcv hcl (fun t ht _ => ⟨ho, by rw [ht]; exact hP, hD, hS.F ht⟩) hS.2.2 hc hs
theorem k_xcatch {own0 : String} {X name : String} (E : kE p s m args c own0 cc nL D tys (gW D A s.heap)) {hh : List (Nat × Nat × Nat × Nat)} (htab : c.exceptionTable.toList = tableOf hh) (pre : List ExceptionTableEntry) (x : ExceptionTableEntry) (suf : List ExceptionTableEntry) (hsplit : tableOf hh = pre ++ x :: suf) (hpass : ∀ z ∈ pre, covers z pc = false ∨ (z.catchType ≠ 0 ∧ ∃ nm : String, Cond.classLink own0 z.catchType nm ∈ lw_all ∧ (X, nm) ∈ kNc)) (hx : covers x pc = true) (h0 : x.catchType ≠ 0) (hlink : Cond.classLink own0 x.catchType name ∈ lw_all) (hcast : (X, name) ∈ kCa) (K : ∀ q : Nat, kJ p l e R s m args below meth c (gW D A s.heap) nL cells slots Q ws x.handlerPc lv [.ref q]) : kX p l e R s m args below meth c (gW D A s.heap) nL cells slots Q ws pc lv st X := by
  intro H locs ls q ce hG hl hce hcv hcl
  refine vx_catch E.2.2.2.1 pre x suf (htab.trans hsplit) (fun z hz => ?_) hx h0 (E.2.2.2.2.1 _ hlink) (va_Nw.use rfl (E.2.2.2.2.2.1.2.2.2.1 _ hcast)) hce hcv hcl (K q H locs ls hG hl)
  rcases hpass z hz with h | ⟨h1, nm, h2, h3⟩
  · exact Or.inl h
  · exact Or.inr ⟨h1, nm, E.2.2.2.2.1 _ h2, E.2.2.2.2.2.1.2.2.2.2.2.2.1 _ h3⟩
def kBadW : List Cond := (kCa.map fun q => Cond.castable q.1 q.2) ++ kDe.map Cond.declares
theorem kBad {D : va_G} {tys : List (ClassId × FieldType)} {U : State} {a : Array Value} (h : kK D tys U) : ∀ w ∈ kBadW, w.before a U = true := by
  intro w hw
  unfold kBadW at hw
  rcases List.mem_append.mp hw with h1 | h1
  · obtain ⟨q, hq, rfl⟩ := List.mem_map.mp h1
    exact va_Nw.use rfl (h.2.2.2.1 q hq)
  · obtain ⟨q, hq, rfl⟩ := List.mem_map.mp h1
    exact va_Nw.use rfl (h.2.2.2.2.1 q hq)
/-- throw new X(text) out of a method without a table -/
theorem k_throw {W0 : va_W} {out : (Option Value × va_W) ⊕ String} {mc ms : Nat} {cls text : String} {names : List String} {ik is ic : Nat} (E : kE p s m args c own cc nL D tys (gW D (va_A W0 s.heap.size) s.heap)) (hlt : l.stackTraces = false) (hlk : meth.locks = false) (hex : ∀ x ∈ c.exceptionTable.toList, False) (hZ : kZ (va_A W0 s.heap.size) s s.heap) (hown : own = RX2) (ho : out = .inr cls) (hw : ws = W0) (hcls : Bundle.fit cls = true) (hnames : ∀ n ∈ names, Bundle.fit n = true) (hk : Cond.classLink own ik cls ∈ lw_all) (hini : Cond.initialized cls ∈ lw_all) (hstr : (is, text) ∈ kSt) (hgoodw : ∀ w ∈ (vx_atS own ic cls names).filter goodWord, w ∈ lw_all) (hbad : ∀ w ∈ (vx_atS own ic cls names).filter (fun w => !goodWord w), w ∈ kBadW) (hot : ∀ w ∈ Cond.classLink own ik cls :: Cond.initialized cls :: vx_atS own ic cls names, vx_ot w = true) (d0 : decode cc pc = .ok (.new ik, 3)) (d3 : decode cc (pc + 3) = .ok (.dup, 1)) (d4 : decode cc (pc + 4) = .ok (.ldc is, 2)) (d6 : decode cc (pc + 6) = .ok (.invokespecial ic, 3)) (d9 : decode cc (pc + 9) = .ok (.athrow, 1)) (hRf : names.length + 3 < R.frames) (hRl : (st.map fun v => v.category).sum + (13 * (names.length + 1) + 43) ≤ R.locals) (hRc : cells + 1 ≤ R.cells) (hRs : slots + 6 ≤ R.slots) (hc : cells + 1 ≤ mc) (hs : slots + 6 ≤ ms) : kJ p l e R s m args below meth c (gW D (va_A W0 s.heap.size) s.heap) nL cells slots (vx_MQ below (kXq out D W0 s.heap.size) (kXc out D W0 s.heap.size) args s mc ms (va_A W0 s.heap.size)) ws pc lv st := by
  intro H locs ls hG hl
  obtain ⟨hP, hD, hS⟩ := hG
  subst hw
  subst hown
  obtain ⟨sa, hsa⟩ := E.2.2.2.2.2.1.2.2.2.2.2.1 _ hstr
  refine vx_throwS (names := names) E.1 E.2.1 hlt E.2.2.2.1 hcls hnames (E.2.2.2.2.1 _ hk) (E.2.2.2.2.1 _ hini) hsa (vx_hat (fun w hw => E.2.2.2.2.1 _ (hgoodw w hw)) hbad (kBad E.2.2.2.2.2.1)) hot hZ.1 hZ.2 hS (hl.1.trans E.2.2.1.symm) d0 d3 d4 d6 d9 (fun x hx => (hex x hx).elim) hRf hRl hRc hRs hlk (fun t _ hle hkp => ⟨ho, hP.kept (fun k q hq => hkp q.1 (hP k q hq).lt), hD, ?_⟩) hS.2.2 hc hs
  exact ⟨Nat.le_trans hS.1 hle, fun q h1 h2 => by rw [hkp q (Nat.lt_of_lt_of_le h1 hS.1)]; exact hS.2.1 q h1 h2⟩

end KW
end
