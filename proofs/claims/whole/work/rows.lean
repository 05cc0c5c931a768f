section
-- ===== PART A: goes FIRST, ahead of the names: the tables' words, and 'selects' of the private methods out of them =====
/-- a private method of a class that the tables say can be made, by its rows of tables_1 -/
def lw_okq (q : MethodName × Nat) : Prop := (q.1.cls ≠ "java/lang/invoke/MethodHandle" ∧ q.1.cls ≠ "java/lang/invoke/VarHandle") ∧ Cond.instantiable q.1.cls q.2 ∈ tables_1 ∧ Cond.privateMethod q.1 ∈ tables_1 ∧ Cond.instanceMethod q.1 ∈ tables_1
theorem lw_p0 : lw_okq (⟨"MilkRound$Samples", "litresIn", "(CI)I"⟩, 8) := ⟨⟨by decide +kernel, by decide +kernel⟩, List.mem_of_getElem? (i := 54) (by decide +kernel), List.mem_of_getElem? (i := 129) (by decide +kernel), List.mem_of_getElem? (i := 130) (by decide +kernel)⟩
theorem lw_p1 : lw_okq (⟨"MilkRound$Samples", "isIn", "(ICI)Z"⟩, 8) := ⟨⟨by decide +kernel, by decide +kernel⟩, List.mem_of_getElem? (i := 54) (by decide +kernel), List.mem_of_getElem? (i := 133) (by decide +kernel), List.mem_of_getElem? (i := 134) (by decide +kernel)⟩
theorem lw_p2 : lw_okq (⟨"java/lang/Throwable", "fillInStackTrace", "(I)Ljava/lang/Throwable;"⟩, 6) := ⟨⟨by decide +kernel, by decide +kernel⟩, List.mem_of_getElem? (i := 196) (by decide +kernel), List.mem_of_getElem? (i := 194) (by decide +kernel), List.mem_of_getElem? (i := 195) (by decide +kernel)⟩
theorem lw_p3 : lw_okq (⟨"MilkRound$Farms", "add", "(I)I"⟩, 5) := ⟨⟨by decide +kernel, by decide +kernel⟩, List.mem_of_getElem? (i := 26) (by decide +kernel), List.mem_of_getElem? (i := 242) (by decide +kernel), List.mem_of_getElem? (i := 243) (by decide +kernel)⟩
theorem lw_p4 : lw_okq (⟨"MilkRound", "requireFarm", "(I)V"⟩, 9) := ⟨⟨by decide +kernel, by decide +kernel⟩, List.mem_of_getElem? (i := 18) (by decide +kernel), List.mem_of_getElem? (i := 277) (by decide +kernel), List.mem_of_getElem? (i := 278) (by decide +kernel)⟩
theorem lw_p5 : lw_okq (⟨"MilkRound$Farms", "addCowTo", "(II)I"⟩, 5) := ⟨⟨by decide +kernel, by decide +kernel⟩, List.mem_of_getElem? (i := 26) (by decide +kernel), List.mem_of_getElem? (i := 296) (by decide +kernel), List.mem_of_getElem? (i := 297) (by decide +kernel)⟩
theorem lw_p6 : lw_okq (⟨"MilkRound$Farms", "milkOn", "(II)I"⟩, 5) := ⟨⟨by decide +kernel, by decide +kernel⟩, List.mem_of_getElem? (i := 26) (by decide +kernel), List.mem_of_getElem? (i := 308) (by decide +kernel), List.mem_of_getElem? (i := 309) (by decide +kernel)⟩
theorem lw_p7 : lw_okq (⟨"MilkRound$Farms", "milkAll", "(I)I"⟩, 5) := ⟨⟨by decide +kernel, by decide +kernel⟩, List.mem_of_getElem? (i := 26) (by decide +kernel), List.mem_of_getElem? (i := 336) (by decide +kernel), List.mem_of_getElem? (i := 337) (by decide +kernel)⟩
theorem lw_p8 : lw_okq (⟨"MilkRound$Farms", "draw", "(II)I"⟩, 5) := ⟨⟨by decide +kernel, by decide +kernel⟩, List.mem_of_getElem? (i := 26) (by decide +kernel), List.mem_of_getElem? (i := 372) (by decide +kernel), List.mem_of_getElem? (i := 373) (by decide +kernel)⟩
theorem lw_p9 : lw_okq (⟨"MilkRound$Samples", "add", "(II)V"⟩, 8) := ⟨⟨by decide +kernel, by decide +kernel⟩, List.mem_of_getElem? (i := 54) (by decide +kernel), List.mem_of_getElem? (i := 376) (by decide +kernel), List.mem_of_getElem? (i := 377) (by decide +kernel)⟩
theorem lw_p10 : lw_okq (⟨"MilkRound", "requireVat", "(I)V"⟩, 9) := ⟨⟨by decide +kernel, by decide +kernel⟩, List.mem_of_getElem? (i := 18) (by decide +kernel), List.mem_of_getElem? (i := 388) (by decide +kernel), List.mem_of_getElem? (i := 389) (by decide +kernel)⟩
theorem lw_p11 : lw_okq (⟨"MilkRound", "freeRoom", "(I)I"⟩, 9) := ⟨⟨by decide +kernel, by decide +kernel⟩, List.mem_of_getElem? (i := 18) (by decide +kernel), List.mem_of_getElem? (i := 393) (by decide +kernel), List.mem_of_getElem? (i := 394) (by decide +kernel)⟩
theorem lw_p12 : lw_okq (⟨"MilkRound$Samples", "countIn", "(CI)I"⟩, 8) := ⟨⟨by decide +kernel, by decide +kernel⟩, List.mem_of_getElem? (i := 54) (by decide +kernel), List.mem_of_getElem? (i := 417) (by decide +kernel), List.mem_of_getElem? (i := 418) (by decide +kernel)⟩
theorem lw_p13 : lw_okq (⟨"MilkRound$Samples", "move", "(CICI)V"⟩, 8) := ⟨⟨by decide +kernel, by decide +kernel⟩, List.mem_of_getElem? (i := 54) (by decide +kernel), List.mem_of_getElem? (i := 422) (by decide +kernel), List.mem_of_getElem? (i := 423) (by decide +kernel)⟩
theorem lw_p14 : lw_okq (⟨"MilkRound$Samples", "settle", "(I)V"⟩, 8) := ⟨⟨by decide +kernel, by decide +kernel⟩, List.mem_of_getElem? (i := 54) (by decide +kernel), List.mem_of_getElem? (i := 463) (by decide +kernel), List.mem_of_getElem? (i := 464) (by decide +kernel)⟩
theorem lw_p15 : lw_okq (⟨"MilkRound$Samples", "isGraded", "(I)Z"⟩, 8) := ⟨⟨by decide +kernel, by decide +kernel⟩, List.mem_of_getElem? (i := 54) (by decide +kernel), List.mem_of_getElem? (i := 467) (by decide +kernel), List.mem_of_getElem? (i := 468) (by decide +kernel)⟩
def lw_privs_1 : List (MethodName × Nat) := [(⟨"MilkRound$Samples", "litresIn", "(CI)I"⟩, 8), (⟨"MilkRound$Samples", "isIn", "(ICI)Z"⟩, 8), (⟨"java/lang/Throwable", "fillInStackTrace", "(I)Ljava/lang/Throwable;"⟩, 6), (⟨"MilkRound$Farms", "add", "(I)I"⟩, 5), (⟨"MilkRound", "requireFarm", "(I)V"⟩, 9), (⟨"MilkRound$Farms", "addCowTo", "(II)I"⟩, 5), (⟨"MilkRound$Farms", "milkOn", "(II)I"⟩, 5), (⟨"MilkRound$Farms", "milkAll", "(I)I"⟩, 5), (⟨"MilkRound$Farms", "draw", "(II)I"⟩, 5), (⟨"MilkRound$Samples", "add", "(II)V"⟩, 8), (⟨"MilkRound", "requireVat", "(I)V"⟩, 9), (⟨"MilkRound", "freeRoom", "(I)I"⟩, 9), (⟨"MilkRound$Samples", "countIn", "(CI)I"⟩, 8), (⟨"MilkRound$Samples", "move", "(CICI)V"⟩, 8), (⟨"MilkRound$Samples", "settle", "(I)V"⟩, 8), (⟨"MilkRound$Samples", "isGraded", "(I)Z"⟩, 8)]
theorem lw_r1 : ∀ q ∈ lw_privs_1, lw_okq q := List.forall_mem_cons.mpr ⟨lw_p0, List.forall_mem_cons.mpr ⟨lw_p1, List.forall_mem_cons.mpr ⟨lw_p2, List.forall_mem_cons.mpr ⟨lw_p3, List.forall_mem_cons.mpr ⟨lw_p4, List.forall_mem_cons.mpr ⟨lw_p5, List.forall_mem_cons.mpr ⟨lw_p6, List.forall_mem_cons.mpr ⟨lw_p7, List.forall_mem_cons.mpr ⟨lw_p8, List.forall_mem_cons.mpr ⟨lw_p9, List.forall_mem_cons.mpr ⟨lw_p10, List.forall_mem_cons.mpr ⟨lw_p11, List.forall_mem_cons.mpr ⟨lw_p12, List.forall_mem_cons.mpr ⟨lw_p13, List.forall_mem_cons.mpr ⟨lw_p14, List.forall_mem_cons.mpr ⟨lw_p15, fun _ h => absurd h List.not_mem_nil⟩⟩⟩⟩⟩⟩⟩⟩⟩⟩⟩⟩⟩⟩⟩⟩
theorem lw_p16 : lw_okq (⟨"MilkRound$Samples", "spoiltLitres", "(I)I"⟩, 8) := ⟨⟨by decide +kernel, by decide +kernel⟩, List.mem_of_getElem? (i := 54) (by decide +kernel), List.mem_of_getElem? (i := 471) (by decide +kernel), List.mem_of_getElem? (i := 472) (by decide +kernel)⟩
theorem lw_p17 : lw_okq (⟨"MilkRound$Samples", "isSpoiltIn", "(II)Z"⟩, 8) := ⟨⟨by decide +kernel, by decide +kernel⟩, List.mem_of_getElem? (i := 54) (by decide +kernel), List.mem_of_getElem? (i := 475) (by decide +kernel), List.mem_of_getElem? (i := 476) (by decide +kernel)⟩
theorem lw_p18 : lw_okq (⟨"MilkRound$Samples", "settleBlame", "(II)V"⟩, 8) := ⟨⟨by decide +kernel, by decide +kernel⟩, List.mem_of_getElem? (i := 54) (by decide +kernel), List.mem_of_getElem? (i := 479) (by decide +kernel), List.mem_of_getElem? (i := 480) (by decide +kernel)⟩
theorem lw_p19 : lw_okq (⟨"MilkRound$Samples", "lossOf", "(I)I"⟩, 8) := ⟨⟨by decide +kernel, by decide +kernel⟩, List.mem_of_getElem? (i := 54) (by decide +kernel), List.mem_of_getElem? (i := 483) (by decide +kernel), List.mem_of_getElem? (i := 484) (by decide +kernel)⟩
theorem lw_p20 : lw_okq (⟨"MilkRound$Samples", "isSpoilt", "(I)Z"⟩, 8) := ⟨⟨by decide +kernel, by decide +kernel⟩, List.mem_of_getElem? (i := 54) (by decide +kernel), List.mem_of_getElem? (i := 487) (by decide +kernel), List.mem_of_getElem? (i := 488) (by decide +kernel)⟩
theorem lw_p21 : lw_okq (⟨"MilkRound$Samples", "valueOf", "(I)I"⟩, 8) := ⟨⟨by decide +kernel, by decide +kernel⟩, List.mem_of_getElem? (i := 54) (by decide +kernel), List.mem_of_getElem? (i := 491) (by decide +kernel), List.mem_of_getElem? (i := 492) (by decide +kernel)⟩
theorem lw_p22 : lw_okq (⟨"MilkRound$Samples", "valueOfSample", "(I)I"⟩, 8) := ⟨⟨by decide +kernel, by decide +kernel⟩, List.mem_of_getElem? (i := 54) (by decide +kernel), List.mem_of_getElem? (i := 495) (by decide +kernel), List.mem_of_getElem? (i := 496) (by decide +kernel)⟩
theorem lw_p23 : lw_okq (⟨"MilkRound$Samples", "settlePay", "(I)V"⟩, 8) := ⟨⟨by decide +kernel, by decide +kernel⟩, List.mem_of_getElem? (i := 54) (by decide +kernel), List.mem_of_getElem? (i := 502) (by decide +kernel), List.mem_of_getElem? (i := 503) (by decide +kernel)⟩
theorem lw_p24 : lw_okq (⟨"MilkRound", "requireSample", "(I)V"⟩, 9) := ⟨⟨by decide +kernel, by decide +kernel⟩, List.mem_of_getElem? (i := 18) (by decide +kernel), List.mem_of_getElem? (i := 513) (by decide +kernel), List.mem_of_getElem? (i := 514) (by decide +kernel)⟩
theorem lw_p25 : lw_okq (⟨"MilkRound$Samples", "ungraded", "()I"⟩, 8) := ⟨⟨by decide +kernel, by decide +kernel⟩, List.mem_of_getElem? (i := 54) (by decide +kernel), List.mem_of_getElem? (i := 534) (by decide +kernel), List.mem_of_getElem? (i := 535) (by decide +kernel)⟩
theorem lw_p26 : lw_okq (⟨"MilkRound", "requireBatch", "(I)V"⟩, 9) := ⟨⟨by decide +kernel, by decide +kernel⟩, List.mem_of_getElem? (i := 18) (by decide +kernel), List.mem_of_getElem? (i := 552) (by decide +kernel), List.mem_of_getElem? (i := 553) (by decide +kernel)⟩
theorem lw_p27 : lw_okq (⟨"MilkRound$Samples", "shareAt", "(II)I"⟩, 8) := ⟨⟨by decide +kernel, by decide +kernel⟩, List.mem_of_getElem? (i := 54) (by decide +kernel), List.mem_of_getElem? (i := 566) (by decide +kernel), List.mem_of_getElem? (i := 567) (by decide +kernel)⟩
theorem lw_p28 : lw_okq (⟨"MilkRound", "requireGradedBatch", "(I)V"⟩, 9) := ⟨⟨by decide +kernel, by decide +kernel⟩, List.mem_of_getElem? (i := 18) (by decide +kernel), List.mem_of_getElem? (i := 578) (by decide +kernel), List.mem_of_getElem? (i := 579) (by decide +kernel)⟩
theorem lw_p29 : lw_okq (⟨"MilkRound$Samples", "payOfAll", "(I)I"⟩, 8) := ⟨⟨by decide +kernel, by decide +kernel⟩, List.mem_of_getElem? (i := 54) (by decide +kernel), List.mem_of_getElem? (i := 583) (by decide +kernel), List.mem_of_getElem? (i := 584) (by decide +kernel)⟩
theorem lw_p30 : lw_okq (⟨"MilkRound$Samples", "paidTo", "(II)I"⟩, 8) := ⟨⟨by decide +kernel, by decide +kernel⟩, List.mem_of_getElem? (i := 54) (by decide +kernel), List.mem_of_getElem? (i := 602) (by decide +kernel), List.mem_of_getElem? (i := 603) (by decide +kernel)⟩
theorem lw_p31 : lw_okq (⟨"MilkRound$Samples", "blamedOn", "(II)I"⟩, 8) := ⟨⟨by decide +kernel, by decide +kernel⟩, List.mem_of_getElem? (i := 54) (by decide +kernel), List.mem_of_getElem? (i := 613) (by decide +kernel), List.mem_of_getElem? (i := 614) (by decide +kernel)⟩
def lw_privs_2 : List (MethodName × Nat) := [(⟨"MilkRound$Samples", "spoiltLitres", "(I)I"⟩, 8), (⟨"MilkRound$Samples", "isSpoiltIn", "(II)Z"⟩, 8), (⟨"MilkRound$Samples", "settleBlame", "(II)V"⟩, 8), (⟨"MilkRound$Samples", "lossOf", "(I)I"⟩, 8), (⟨"MilkRound$Samples", "isSpoilt", "(I)Z"⟩, 8), (⟨"MilkRound$Samples", "valueOf", "(I)I"⟩, 8), (⟨"MilkRound$Samples", "valueOfSample", "(I)I"⟩, 8), (⟨"MilkRound$Samples", "settlePay", "(I)V"⟩, 8), (⟨"MilkRound", "requireSample", "(I)V"⟩, 9), (⟨"MilkRound$Samples", "ungraded", "()I"⟩, 8), (⟨"MilkRound", "requireBatch", "(I)V"⟩, 9), (⟨"MilkRound$Samples", "shareAt", "(II)I"⟩, 8), (⟨"MilkRound", "requireGradedBatch", "(I)V"⟩, 9), (⟨"MilkRound$Samples", "payOfAll", "(I)I"⟩, 8), (⟨"MilkRound$Samples", "paidTo", "(II)I"⟩, 8), (⟨"MilkRound$Samples", "blamedOn", "(II)I"⟩, 8)]
theorem lw_r2 : ∀ q ∈ lw_privs_2, lw_okq q := List.forall_mem_cons.mpr ⟨lw_p16, List.forall_mem_cons.mpr ⟨lw_p17, List.forall_mem_cons.mpr ⟨lw_p18, List.forall_mem_cons.mpr ⟨lw_p19, List.forall_mem_cons.mpr ⟨lw_p20, List.forall_mem_cons.mpr ⟨lw_p21, List.forall_mem_cons.mpr ⟨lw_p22, List.forall_mem_cons.mpr ⟨lw_p23, List.forall_mem_cons.mpr ⟨lw_p24, List.forall_mem_cons.mpr ⟨lw_p25, List.forall_mem_cons.mpr ⟨lw_p26, List.forall_mem_cons.mpr ⟨lw_p27, List.forall_mem_cons.mpr ⟨lw_p28, List.forall_mem_cons.mpr ⟨lw_p29, List.forall_mem_cons.mpr ⟨lw_p30, List.forall_mem_cons.mpr ⟨lw_p31, fun _ h => absurd h List.not_mem_nil⟩⟩⟩⟩⟩⟩⟩⟩⟩⟩⟩⟩⟩⟩⟩⟩
theorem lw_p32 : lw_okq (⟨"MilkRound$Samples", "balanceOf", "(I)J"⟩, 8) := ⟨⟨by decide +kernel, by decide +kernel⟩, List.mem_of_getElem? (i := 54) (by decide +kernel), List.mem_of_getElem? (i := 624) (by decide +kernel), List.mem_of_getElem? (i := 625) (by decide +kernel)⟩
theorem lw_p33 : lw_okq (⟨"MilkRound$Samples", "allLitres", "()I"⟩, 8) := ⟨⟨by decide +kernel, by decide +kernel⟩, List.mem_of_getElem? (i := 54) (by decide +kernel), List.mem_of_getElem? (i := 656) (by decide +kernel), List.mem_of_getElem? (i := 657) (by decide +kernel)⟩
theorem lw_p34 : lw_okq (⟨"MilkRoundModel", "isFarm", "(I)Z"⟩, 21) := ⟨⟨by decide +kernel, by decide +kernel⟩, List.mem_of_getElem? (i := 671) (by decide +kernel), List.mem_of_getElem? (i := 758) (by decide +kernel), List.mem_of_getElem? (i := 759) (by decide +kernel)⟩
theorem lw_p35 : lw_okq (⟨"MilkRoundModel", "isVat", "(I)Z"⟩, 21) := ⟨⟨by decide +kernel, by decide +kernel⟩, List.mem_of_getElem? (i := 671) (by decide +kernel), List.mem_of_getElem? (i := 802) (by decide +kernel), List.mem_of_getElem? (i := 803) (by decide +kernel)⟩
theorem lw_p36 : lw_okq (⟨"MilkRoundModel", "onWay", "(I)I"⟩, 21) := ⟨⟨by decide +kernel, by decide +kernel⟩, List.mem_of_getElem? (i := 671) (by decide +kernel), List.mem_of_getElem? (i := 806) (by decide +kernel), List.mem_of_getElem? (i := 807) (by decide +kernel)⟩
theorem lw_p37 : lw_okq (⟨"MilkRoundModel", "isSample", "(I)Z"⟩, 21) := ⟨⟨by decide +kernel, by decide +kernel⟩, List.mem_of_getElem? (i := 671) (by decide +kernel), List.mem_of_getElem? (i := 834) (by decide +kernel), List.mem_of_getElem? (i := 835) (by decide +kernel)⟩
theorem lw_p38 : lw_okq (⟨"MilkRoundModel", "isBatch", "(I)Z"⟩, 21) := ⟨⟨by decide +kernel, by decide +kernel⟩, List.mem_of_getElem? (i := 671) (by decide +kernel), List.mem_of_getElem? (i := 858) (by decide +kernel), List.mem_of_getElem? (i := 859) (by decide +kernel)⟩
theorem lw_p39 : lw_okq (⟨"MilkRoundModel", "has", "(IC)Z"⟩, 21) := ⟨⟨by decide +kernel, by decide +kernel⟩, List.mem_of_getElem? (i := 671) (by decide +kernel), List.mem_of_getElem? (i := 862) (by decide +kernel), List.mem_of_getElem? (i := 863) (by decide +kernel)⟩
theorem lw_p40 : lw_okq (⟨"MilkRoundModel", "isGraded", "(I)Z"⟩, 21) := ⟨⟨by decide +kernel, by decide +kernel⟩, List.mem_of_getElem? (i := 671) (by decide +kernel), List.mem_of_getElem? (i := 874) (by decide +kernel), List.mem_of_getElem? (i := 875) (by decide +kernel)⟩
theorem lw_p41 : lw_okq (⟨"MilkRoundModel", "payOf", "(I)I"⟩, 21) := ⟨⟨by decide +kernel, by decide +kernel⟩, List.mem_of_getElem? (i := 671) (by decide +kernel), List.mem_of_getElem? (i := 878) (by decide +kernel), List.mem_of_getElem? (i := 879) (by decide +kernel)⟩
theorem lw_p42 : lw_okq (⟨"MilkRoundModel", "worthOf", "(I)I"⟩, 21) := ⟨⟨by decide +kernel, by decide +kernel⟩, List.mem_of_getElem? (i := 671) (by decide +kernel), List.mem_of_getElem? (i := 882) (by decide +kernel), List.mem_of_getElem? (i := 883) (by decide +kernel)⟩
theorem lw_p43 : lw_okq (⟨"MilkRoundModel", "lossOf", "(I)I"⟩, 21) := ⟨⟨by decide +kernel, by decide +kernel⟩, List.mem_of_getElem? (i := 671) (by decide +kernel), List.mem_of_getElem? (i := 890) (by decide +kernel), List.mem_of_getElem? (i := 891) (by decide +kernel)⟩
theorem lw_p44 : lw_okq (⟨"MilkRoundModel", "counts", "(II)Z"⟩, 21) := ⟨⟨by decide +kernel, by decide +kernel⟩, List.mem_of_getElem? (i := 671) (by decide +kernel), List.mem_of_getElem? (i := 899) (by decide +kernel), List.mem_of_getElem? (i := 900) (by decide +kernel)⟩
theorem lw_p45 : lw_okq (⟨"MilkRoundModel", "blameOf", "(I)I"⟩, 21) := ⟨⟨by decide +kernel, by decide +kernel⟩, List.mem_of_getElem? (i := 671) (by decide +kernel), List.mem_of_getElem? (i := 907) (by decide +kernel), List.mem_of_getElem? (i := 908) (by decide +kernel)⟩
def lw_privs_3 : List (MethodName × Nat) := [(⟨"MilkRound$Samples", "balanceOf", "(I)J"⟩, 8), (⟨"MilkRound$Samples", "allLitres", "()I"⟩, 8), (⟨"MilkRoundModel", "isFarm", "(I)Z"⟩, 21), (⟨"MilkRoundModel", "isVat", "(I)Z"⟩, 21), (⟨"MilkRoundModel", "onWay", "(I)I"⟩, 21), (⟨"MilkRoundModel", "isSample", "(I)Z"⟩, 21), (⟨"MilkRoundModel", "isBatch", "(I)Z"⟩, 21), (⟨"MilkRoundModel", "has", "(IC)Z"⟩, 21), (⟨"MilkRoundModel", "isGraded", "(I)Z"⟩, 21), (⟨"MilkRoundModel", "payOf", "(I)I"⟩, 21), (⟨"MilkRoundModel", "worthOf", "(I)I"⟩, 21), (⟨"MilkRoundModel", "lossOf", "(I)I"⟩, 21), (⟨"MilkRoundModel", "counts", "(II)Z"⟩, 21), (⟨"MilkRoundModel", "blameOf", "(I)I"⟩, 21)]
theorem lw_r3 : ∀ q ∈ lw_privs_3, lw_okq q := List.forall_mem_cons.mpr ⟨lw_p32, List.forall_mem_cons.mpr ⟨lw_p33, List.forall_mem_cons.mpr ⟨lw_p34, List.forall_mem_cons.mpr ⟨lw_p35, List.forall_mem_cons.mpr ⟨lw_p36, List.forall_mem_cons.mpr ⟨lw_p37, List.forall_mem_cons.mpr ⟨lw_p38, List.forall_mem_cons.mpr ⟨lw_p39, List.forall_mem_cons.mpr ⟨lw_p40, List.forall_mem_cons.mpr ⟨lw_p41, List.forall_mem_cons.mpr ⟨lw_p42, List.forall_mem_cons.mpr ⟨lw_p43, List.forall_mem_cons.mpr ⟨lw_p44, List.forall_mem_cons.mpr ⟨lw_p45, fun _ h => absurd h List.not_mem_nil⟩⟩⟩⟩⟩⟩⟩⟩⟩⟩⟩⟩⟩⟩
def lw_privs : List (MethodName × Nat) := lw_privs_1 ++ (lw_privs_2 ++ (lw_privs_3))
def lw_tbl : List Cond := k2_sels lw_privs ++ tables_1
theorem lw_privs_ok : ∀ q ∈ lw_privs, lw_okq q := by
  show ∀ q ∈ lw_privs_1 ++ (lw_privs_2 ++ (lw_privs_3)), lw_okq q
  exact List.forall_mem_append.mpr ⟨lw_r1, List.forall_mem_append.mpr ⟨lw_r2, lw_r3⟩⟩
/-- the streams that the claim lets the run draw from -/
abbrev lw_cs : List Choice := [Jvm.Choice.named "NaN.bits"]
theorem lw_bits : nanBits ∈ lw_cs := by first | decide | exact List.mem_cons_self | simp [lw_cs, nanBits]
/-! ===== BEGIN words of one list among another's, by their places ===== -/
theorem goodIn_r {big : List Cond} (ws : List Cond) (ps : List Nat) (hp : ws = ps.filterMap (fun i => big[i]?)) (h : ws.all goodWord = true) : GoodIn big ws := by
  intro w hw
  have h1 := List.all_eq_true.mp h w hw
  rw [hp] at hw
  obtain ⟨i, -, hi⟩ := List.mem_filterMap.mp hw
  have hm : w ∈ big := by first | exact List.mem_of_getElem? hi | exact List.getElem?_mem hi
  exact ⟨hm, good_of_word h1⟩
theorem goodIn_app {big a b : List Cond} (ha : GoodIn big a) (hb : GoodIn big b) : GoodIn big (a ++ b) := fun w h => (List.mem_append.mp h).elim (ha w) (hb w)
theorem goodIn_ca {big a b : List Cond} {c : Cond} (ha : GoodIn big (c :: a)) (hb : GoodIn big b) : GoodIn big (c :: (a ++ b)) := fun w h => (List.mem_cons.mp h).elim (fun e => ha w (List.mem_cons.mpr (Or.inl e))) (fun h => (List.mem_append.mp h).elim (fun h => ha w (List.mem_cons.mpr (Or.inr h))) (hb w))
theorem goodIn_sub {big ws : List Cond} (hm : ∀ w ∈ ws, w ∈ big) (h : ws.all goodWord = true) : GoodIn big ws := fun w hw => ⟨hm w hw, good_of_word (List.all_eq_true.mp h w hw)⟩
/-! ===== END ===== -/

def va_AOA (t : FieldType) (U : State) : Prop := (Cond.arrayOver (.array t)).before #[] U = true
theorem va_AOA.of {t : FieldType} {A : Array Value} {U : State} (h : (Cond.arrayOver (.array t)).before A U = true) : va_AOA t U := h
theorem va_AOA.use {t : FieldType} {A : Array Value} {U : State} (h : va_AOA t U) : (Cond.arrayOver (.array t)).before A U = true := h
/-! ===== BEGIN new T[n][m]: the outer array a place, the inner ones among the pooled ===== -/
/-- f, but v at every address of l -/
def vr_up {α : Type} (f : Nat → α) (l : List Nat) (v : α) : Nat → α := fun a => if a ∈ l then v else f a
theorem vr_up_in {α : Type} {f : Nat → α} {l : List Nat} {v : α} {a : Nat} (h : a ∈ l) : vr_up f l v a = v := if_pos h
theorem vr_up_ne {α : Type} {f : Nat → α} {l : List Nat} {v : α} {a : Nat} (h : a ∉ l) : vr_up f l v a = f a := if_neg h
theorem vr_rows {L l : List Nat} {f : Nat → va_E} {e : va_E} (h : ∀ a, a ∈ l → a ∉ L) : va_pl L f ++ l.map (fun a => (a, e)) = va_pl (L ++ l) (vr_up f l e) := by
  unfold va_pl
  rw [List.map_append]
  congr 1
  · apply List.map_congr_left
    intro a ha
    rw [vr_up_ne (fun q => h a q ha)]
  · apply List.map_congr_left
    intro a ha
    rw [vr_up_in ha]
theorem vr_lay {X rows : va_W} {x : Nat × va_E} {pl : va_W} {D : va_G} {cl : List vw_C} {H : Heap} (hP : va_P D cl (((X ++ pl) ++ [x]) ++ rows) H) : va_P D cl ((X ++ [x]) ++ (pl ++ rows)) H := by
  rw [List.append_assoc (X ++ pl)] at hP
  have h := va_P.swap hP
  rw [← List.append_assoc X] at h
  have h2 := va_P.swap h
  rw [List.append_assoc (X ++ [x])] at h2
  exact h2
theorem vr_layD {X rows : va_W} {x : Nat × va_E} {pl : va_W} {A : Nat → Prop} (hD : va_D A (((X ++ pl) ++ [x]) ++ rows)) : va_D A ((X ++ [x]) ++ (pl ++ rows)) := by
  rw [List.append_assoc (X ++ pl)] at hD
  have h := va_D.swap hD
  rw [← List.append_assoc X] at h
  have h2 := va_D.swap h
  rw [List.append_assoc (X ++ [x])] at h2
  exact h2
theorem vr_outer (c : ClassId) (N h0 : Nat) : ∀ i : Nat, Jvm.Free.Multi.outerC c N h0 i = arrV c N (fun j => va_rf (if j < i then some (h0 + 1 + j) else none))
  | 0 => by
    show ({ cls := c, slots := Array.replicate N .null, vm := .none } : Cell) = _
    rw [arrV_new]
    refine congrArg (arrV c N) (funext fun j => ?_)
    simp [va_rf]
  | i + 1 => by
    show (Jvm.Free.Multi.outerC c N h0 i).setSlot i (.ref (h0 + 1 + i)) = _
    rw [vr_outer c N h0 i, arrV_store]
    refine congrArg (arrV c N) (funext fun j => ?_)
    by_cases e : j = i
    · subst e
      simp [updV, va_rf]
    · by_cases h : j < i
      · simp [updV, e, h, Nat.lt_succ_of_lt h]
      · simp [updV, e, h, show ¬ j < i + 1 by omega]
section VGM
variable {p : Program} {l : Launch} {e : Env} {R : Room} {s : State} {m : MethodId} {args : Array Value} {below : List Frame} {meth : Method} {c : Code} {H : Heap} {locs : List Loc} {cells slots : Nat} {Q : State → Prop}
variable {cc : ByteArray} {pc : Nat} {ls : Array Slot} {rest : List Value} {D : va_G} {cl : List vw_C} {A : Nat → Prop} {a : Nat} {tys : List (ClassId × FieldType)} {ws : va_W} {H0 : Heap}
theorem va_mna {X : va_W} {L : List Nat} {f : Nat → va_E} {cc : ByteArray} (hexec : p.tables.exec = Jvm.exec) (hb : c.code = cc) {own : String} {index : Nat} {ty : FieldType} {cy : ClassId} (hown : s.vm.findClass own = some m.cls) (hclink : (Cond.classLink own index ("[" ++ (FieldType.array ty).toString)).before args s = true) (hover : va_AOA ty s) (harr : (Cond.arrayClass ty).before args s = true) (hcy : s.vm.findClass (FieldType.array ty).toString = some cy)
    (hK : va_K D cl tys s) (hP : va_P D cl (X ++ va_pl L f) H) (hD : va_D A (X ++ va_pl L f)) (hS : va_S A H0 H locs) (hA : ∀ q, H0.size ≤ q → A q) {n k : Int32} {N' K' : Nat} {z : vp_A} (hn : ¬ n < 0) (hk : ¬ k < 0) (hN : n.toNatClampNeg = N') (hM : k.toNatClampNeg = K')
    (hb1 : N' * 4 ≤ 536870912) (hb2 : K' * componentBytes ty ≤ 536870912) (hb3 : K' ≤ 536870912) (hdf : fits ty (defaultValue ty) = true) (hdd : (defaultValue ty).isDefault = true) (hcells : cells + (1 + N') ≤ R.cells) (hslots : slots + (N' + N' * K') ≤ R.slots) (hz : ∀ c : ClassId, Jvm.Free.Multi.innerC c K' (defaultValue ty) = vp_cell c z) (hdg : decode cc pc = .ok (.multianewarray index 2, 4))
    (kk : ∀ (q : Nat) (r : Nat → Nat) (cA : ClassId) (H1 : Heap), (∀ i j : Nat, i < N' → j < N' → r i = r j → i = j) → (∀ i : Nat, i < N' → r i ∉ L) → va_K D cl (tys ++ [(cA, .array ty)]) s →
      va_P D cl ((X ++ [(q, .inl (cA, N', .inr (.inr (.inr (.inr (fun i => if i < N' then some (r i) else none))))))]) ++ va_pl (L ++ (List.range N').map r) (vr_up f ((List.range N').map r) (.inl (cy, z)))) H1 → va_D A ((X ++ [(q, .inl (cA, N', .inr (.inr (.inr (.inr (fun i => if i < N' then some (r i) else none))))))]) ++ va_pl (L ++ (List.range N').map r) (vr_up f ((List.range N').map r) (.inl (cy, z)))) → va_S A H0 H1 locs →
      W p l e R s m args below meth c H1 locs (cells + 1 + N') (slots + N' + N' * K') Q (F0 m (pc + 4) ls (.ref q :: rest))) : W p l e R s m args below meth c H locs cells slots Q (F0 m pc ls (.int k :: .int n :: rest)) := by
  subst hN
  subst hM
  intro T hT Xs
  obtain ⟨vm₁, cA, comp, -, fA, fC, hO, -, X', step⟩ := Xs.multianewarray2F hexec hown hclink (va_AOA.use hover) harr (g := F0 m pc ls (.int k :: .int n :: rest)) rfl (by rw [hb]; exact hdg) rfl hn hk hb1 hb2 hb3 hdf hdd hcells hslots
  have ec : some cy = some comp := hcy.symm.trans fC
  cases ec
  generalize hF : Jvm.Free.Multi.fill (T.setVm vm₁) cA cy n.toNatClampNeg k.toNatClampNeg (defaultValue ty) n.toNatClampNeg = F at X' step
  have hTh : (T.setVm vm₁).heap = H := hT
  obtain ⟨f1, f2, -, -⟩ := Jvm.Free.Multi.fill_facts (T.setVm vm₁) cA cy n.toNatClampNeg k.toNatClampNeg (defaultValue ty) n.toNatClampNeg
  rw [hF, hTh] at f1 f2
  have hold : ∀ x : Nat, x < H.size → F.heap[x]? = H[x]? := fun x hx => by
    have := Jvm.Free.Multi.fill_old (T.setVm vm₁) cA cy n.toNatClampNeg k.toNatClampNeg (defaultValue ty) (a := x) (by rw [hTh]; exact hx) n.toNatClampNeg
    rw [hF, hTh] at this
    exact this
  have hrow : ∀ j : Nat, j < n.toNatClampNeg → F.heap[H.size + 1 + j]? = some (vp_cell cy z) := fun j hj => by
    have := Jvm.Free.Multi.fill_inner (T.setVm vm₁) cA cy n.toNatClampNeg k.toNatClampNeg (defaultValue ty) n.toNatClampNeg j hj
    rw [hF, hTh, hz] at this
    exact this
  have hout : Jvm.Free.Multi.outerC cA n.toNatClampNeg H.size n.toNatClampNeg = vp_cell cA (n.toNatClampNeg, .inr (.inr (.inr (.inr (fun i => if i < n.toNatClampNeg then some (H.size + 1 + i) else none))))) := by
    rw [vp_cell_q]
    exact vr_outer cA n.toNatClampNeg H.size n.toNatClampNeg
  rw [hout] at f2
  have hlt : ∀ a, a ∈ L → a < H.size := fun a ha => by
    obtain ⟨k9, hk9⟩ := va_pl_get (X := X) (f := f) ha
    exact (hP k9 _ hk9).lt
  have hnl : ∀ i : Nat, i < n.toNatClampNeg → H.size + 1 + i ∉ L := fun i _ h => by
    have := hlt _ h
    omega
  have hnm : ∀ a, a ∈ (List.range n.toNatClampNeg).map (fun i => H.size + 1 + i) → a ∉ L := fun a ha h => by
    obtain ⟨i, -, rfl⟩ := List.mem_map.mp ha
    have := hlt _ h
    omega
  have hP0 : va_P D cl (X ++ va_pl L f) F.heap := hP.kept (fun k9 x hx => hold x.1 ((hP k9 x hx).lt))
  have hP1 : va_P D cl ((X ++ va_pl L f) ++ [(H.size, .inl (cA, n.toNatClampNeg, .inr (.inr (.inr (.inr (fun i => if i < n.toNatClampNeg then some (H.size + 1 + i) else none))))))]) F.heap := hP0.app (fun k9 x hx => by
    have h0 : k9 < 1 := (List.getElem?_eq_some_iff.mp hx).1
    rw [show k9 = 0 by omega] at hx
    cases hx
    exact f2)
  have hP2 : va_P D cl (((X ++ va_pl L f) ++ [(H.size, .inl (cA, n.toNatClampNeg, .inr (.inr (.inr (.inr (fun i => if i < n.toNatClampNeg then some (H.size + 1 + i) else none))))))]) ++ ((List.range n.toNatClampNeg).map (fun i => H.size + 1 + i)).map (fun a => (a, .inl (cy, z)))) F.heap := hP1.app (fun k9 x hx => by
    obtain ⟨a, ha, rfl⟩ := List.mem_map.mp (List.mem_of_getElem? hx)
    obtain ⟨i, hi, rfl⟩ := List.mem_map.mp ha
    exact hrow i (List.mem_range.mp hi))
  have hD2 : va_D A (((X ++ va_pl L f) ++ [(H.size, .inl (cA, n.toNatClampNeg, .inr (.inr (.inr (.inr (fun i => if i < n.toNatClampNeg then some (H.size + 1 + i) else none))))))]) ++ ((List.range n.toNatClampNeg).map (fun i => H.size + 1 + i)).map (fun a => (a, .inl (cy, z)))) := by
    have hD1 := hD.push (e := .inl (cA, n.toNatClampNeg, .inr (.inr (.inr (.inr (fun i => if i < n.toNatClampNeg then some (H.size + 1 + i) else none)))))) hP rfl (hA _ hS.1)
    generalize hW1 : (X ++ va_pl L f) ++ [(H.size, .inl (cA, n.toNatClampNeg, .inr (.inr (.inr (.inr (fun i => if i < n.toNatClampNeg then some (H.size + 1 + i) else none))))))] = W1 at hD1 hP1 ⊢
    have hle : ∀ (k9 : Nat) (x : Nat × va_E), W1[k9]? = some x → x.1 ≤ H.size := fun k9 x hx => by
      rw [← hW1] at hx
      by_cases hl : k9 < (X ++ va_pl L f).length
      · rw [List.getElem?_append_left hl] at hx
        exact Nat.le_of_lt ((hP k9 x hx).lt)
      · rw [List.getElem?_append_right (by omega)] at hx
        have h0 : k9 - (X ++ va_pl L f).length < 1 := (List.getElem?_eq_some_iff.mp hx).1
        rw [show k9 - (X ++ va_pl L f).length = 0 by omega] at hx
        cases hx
        exact Nat.le_refl _
    have hr : ∀ (k9 : Nat) (x : Nat × va_E), (((List.range n.toNatClampNeg).map (fun i => H.size + 1 + i)).map (fun a => ((a, .inl (cy, z)) : Nat × va_E)))[k9]? = some x → x.1 = H.size + 1 + k9 := fun k9 x hx => by
      rw [List.getElem?_map, List.getElem?_map] at hx
      by_cases h9 : k9 < n.toNatClampNeg
      · rw [List.getElem?_range h9] at hx
        cases hx
        rfl
      · have hn0 : (List.range n.toNatClampNeg)[k9]? = none := List.getElem?_eq_none (by rw [List.length_range]; omega)
        rw [hn0] at hx
        cases hx
    refine ⟨fun i j x y hi hj hxy => ?_, fun k9 x hx => ?_⟩
    · by_cases h1 : i < W1.length <;> by_cases h2 : j < W1.length
      · rw [List.getElem?_append_left h1] at hi
        rw [List.getElem?_append_left h2] at hj
        exact hD1.1 i j x y hi hj hxy
      · rw [List.getElem?_append_left h1] at hi
        rw [List.getElem?_append_right (by omega)] at hj
        have := hle _ _ hi
        have := hr _ _ hj
        omega
      · rw [List.getElem?_append_right (by omega)] at hi
        rw [List.getElem?_append_left h2] at hj
        have := hle _ _ hj
        have := hr _ _ hi
        omega
      · rw [List.getElem?_append_right (by omega)] at hi hj
        have := hr _ _ hi
        have := hr _ _ hj
        omega
    · by_cases h1 : k9 < W1.length
      · rw [List.getElem?_append_left h1] at hx
        exact hD1.2 k9 x hx
      · rw [List.getElem?_append_right (by omega)] at hx
        have := hr _ _ hx
        exact hA _ (by have := hS.1; omega)
  have hAr : ArrOfT s cA (.array ty) := fun N9 z9 => by
    obtain ⟨-, k9, hk9, cm9, hkk9⟩ := (hO 0 0 0).1
    exact ⟨(fun q hq => by cases hq), k9, hk9, cm9, hkk9⟩
  have hK2 : va_K D cl (tys ++ [(cA, .array ty)]) s := ⟨hK.1, fun k9 x hx => by
    by_cases hl : k9 < tys.length
    · rw [List.getElem?_append_left hl] at hx
      exact hK.2 k9 x hx
    · rw [List.getElem?_append_right (by omega)] at hx
      have h0 : k9 - tys.length < 1 := (List.getElem?_eq_some_iff.mp hx).1
      rw [show k9 - tys.length = 0 by omega] at hx
      cases hx
      exact ⟨hAr, fA⟩⟩
  obtain ⟨t, a1, b1⟩ := kk H.size (fun i => H.size + 1 + i) cA F.heap (fun i j _ _ h => by have h9 : H.size + 1 + i = H.size + 1 + j := h; omega) hnl hK2 (by rw [← vr_rows hnm]; exact vr_lay hP2) (by rw [← vr_rows hnm]; exact vr_layD hD2) ⟨by rw [f1]; have := hS.1; omega, fun x h1 h2 => (hold x (Nat.lt_of_lt_of_le h1 hS.1)).trans (hS.2.1 x h1 h2), hS.2.2⟩ F rfl X'
  refine ⟨t, step t ?_, b1⟩
  have e : T.heap.size = H.size := by rw [hT]
  rw [e]
  exact a1
end VGM
/-! ===== END ===== -/

/-! ===== BEGIN exceptions that leave a method, and their catching by the caller (launches without stack traces) ===== -/
section VXA
/-! The laws vx_back, vx_callV, vx_callS, vx_callSW, vx_throw0, vx_throwS follow proofs of the library, with one case more: JvmDerived/Free/Laws.lean (Back.of_free), Shelf42/LK1.lean (callV, callS), Shelf/KitTraced.lean (throwNew0V, throwNewS). -/
/-- where a method has thrown q: the class by its name, the cell, what was written, the world -/
def vx_T (XC : String → State → State → Prop) (st : State) (q : Addr) (t : State) (mc ms : Nat) (free : Addr → Prop) : Prop :=
  ∃ (E : String) (ce : Cell) (L : List Loc), XC E st t ∧ t.heap[q]? = some ce ∧ ce.vm = .none ∧ st.vm.findClass E = some ce.cls ∧ st.WarmedH t.vm ∧ st.sameButNew ({ t with vm := st.vm } : State) L mc ms ∧ ∀ z ∈ L, free z.base
def vx_Q (Qc : Array Value → State → Outcome → State → Prop) (XC : String → State → State → Prop) (mc ms : Nat) (free : Addr → Prop) : Array Value → State → Outcome → State → Prop := fun a st o t =>
  (Qc a st o t ∧ ∃ L, FrameEnd st o t L mc ms ∧ ∀ q ∈ L, free q.base) ∨ ∃ q, o = .threw q ∧ vx_T XC st q t mc ms free
/-- a callee that returns or throws -/
def vx_Met (l : Launch) (y : MethodName) (ws : List Cond) (rm : Room) (Pc : Array Value → State → Prop) (Qc : Array Value → State → Outcome → State → Prop) (XC : String → State → State → Prop) (mc ms : Nat) (free : Addr → Prop) : Prop :=
  MetFree l y (headSpec ws rm) Pc (fun _ _ _ _ _ => True) (vx_Q Qc XC mc ms free)
def vx_Post (XC : String → State → State → Prop) (mc ms : Nat) (free : Addr → Prop) : Pt → Array Value → Addr → Pt → Prop := fun A a q B =>
  ∃ (g : JFrame) (mk : MethodId) (t : State) (L : List Loc) (E : String) (ce : Cell), B.U.heap = t.heap ∧ B.U.vm = t.vm ∧ XC E (A.U.calling g mk a) t ∧ t.heap[q]? = some ce ∧ ce.vm = .none ∧ A.U.vm.findClass E = some ce.cls ∧ B.locs = A.locs ++ L ∧ (∀ z ∈ L, free z.base) ∧ B.cells = A.cells + mc ∧ B.slots = A.slots + ms
def vx_Back (l : Launch) (R : Room) (p : Program) (e : Env) (below : List Frame) (s : State) (sargs : Array Value) (y : MethodName) (len W9 : Nat)
    (Pre : Pt → Array Value → Prop) (Post : Pt → Array Value → Option Value → Pt → Prop) (PostX : Pt → Array Value → Addr → Pt → Prop) : Prop :=
  ∀ (m : MethodId) (meth : Method) (c : Code) (A : Pt) (g : JFrame) (ig : Instr) (mk : MethodId) (a : Array Value),
    Stand p l e R s m sargs below meth c A.U A.locs A.cells A.slots → g.method = m → g.locals.size = c.maxLocals → decode c.code g.pc = .ok (ig, len) →
    2 * g.monitorRoom + (g.stack.map fun v => v.category).sum ≤ W9 → A.U.methodNamed? y = some mk → Pre A a →
    (∃ (v : Option Value) (B : Pt), Stand p l e R s m sargs below meth c B.U B.locs B.cells B.slots ∧ Post A a v B ∧
      Steps p.tables e below (doInvoke e (A.U.setTop g) [] mk a).1 (B.U.setTop { g with pc := g.pc + len, stack := v.toList ++ g.stack })) ∨
    (∃ (q : Addr) (B : Pt), Stand p l e R s m sargs below meth c B.U B.locs B.cells B.slots ∧ PostX A a q B ∧
      Steps p.tables e below (doInvoke e (A.U.setTop g) [] mk a).1 ((B.U.setTop g).pushFrame (.throwing q)))
section Payer
variable {l : Launch} {R : Room} {p : Program} {e : Env} {below : List Frame} {s : State} {sargs : Array Value} {y : MethodName} {len W9 : Nat}
theorem vx_back {ws : List Cond} {rm : Room} {Pc : Array Value → State → Prop} {Qc : Array Value → State → Outcome → State → Prop} {XC : String → State → State → Prop} {mc ms : Nat} {free : Addr → Prop} {bytes : ByteArray} {maxL : Nat} {ret : Option FieldType}
    (hM : vx_Met l y ws rm Pc Qc XC mc ms free) (hblind : FrameBlind Pc) (hrc : rm.cells = mc) (hrs : rm.slots = ms)
    (hframes : rm.frames + 1 ≤ R.frames) (hlocals : W9 + (maxL + 11) + rm.locals ≤ R.locals)
    (hws : ∀ w ∈ ws, ∀ a' U, s.WarmedH U.vm → w.before a' U = true) (hcode : Cond.code y bytes maxL ret ∈ ws) (hinit : ∀ a' U, s.WarmedH U.vm → (Cond.initialized y.cls).before a' U = true) :
    vx_Back l R p e below s sargs y len W9 (PreOf R mc ms Pc) (PostOf Qc mc ms free) (vx_Post XC mc ms free) := by
  intro m meth c A g ig mk a X hg hsize hdg hW hn hp
  have h1 : (headSpec ws rm).pre.before a A.U = true := atoms_intro fun w hw => hws w hw _ _ X.warmed
  have h2 : (Cond.code y bytes maxL ret).before a A.U = true := hws _ hcode _ _ X.warmed
  have h3 : (Cond.initialized y.cls).before a A.U = true := hinit _ _ X.warmed
  have h4 : A.cells + (headSpec ws rm).room.cells ≤ R.cells := by rw [show (headSpec ws rm).room.cells = mc from hrc]; exact hp.1
  have h5 : A.slots + (headSpec ws rm).room.slots ≤ R.slots := by rw [show (headSpec ws rm).room.slots = ms from hrs]; exact hp.2.1
  have hPc : Pc a (A.U.calling g mk a) := hblind _ _ _ _ hp.2.2
  obtain ⟨U, Ls, c0, s0⟩ := A
  dsimp only [Pt.U, Pt.locs, Pt.cells, Pt.slots] at h1 h2 h3 h4 h5 X hn hPc ⊢
  obtain ⟨methY, cY, hmY, hcY, -, hlY, -, -, -, -⟩ := Cond.code_spec hn h2
  obtain ⟨kY, hkY, -⟩ := className_of_methodNamed hn
  have hinitY : kY.init = .initialized := Cond.initialized_spec (findClass_of_methodNamed hn) hkY h3
  have h : At U g.method c below := by rw [hg]; exact X.here
  have hlocals9 : W9 + (maxL + 11) + (headSpec ws rm).room.locals ≤ R.locals := hlocals
  have happ : (headSpec ws rm).appliesLoose y e.platform (U.calling g mk a) = true :=
    Spec.appliesLoose_calling (g := g) h hdg hn hkY hinitY
      (X.room_calling (g := g) (R' := (headSpec ws rm).room) hsize hmY hcY hframes (by rw [hlY]; omega) h4 h5) h1
  obtain ⟨mid, hmid⟩ := h.above
  have hfr : (U.setTop g).frames = (.java g :: mid) ++ below := by rw [State.frames_setTop' g h.top, hmid]; rfl
  obtain ⟨o, s₂, hsteps, -, hend, hq⟩ := Steps.callFree hM p X.admits X.cas X.clock (acts := []) hfr happ hPc trivial
  have hq' : vx_Q Qc XC mc ms free a (U.calling g mk a) o s₂ := hq
  rw [State.frames_setTop' g h.top] at hend
  obtain ⟨g₀, hg0⟩ := Option.isSome_iff_exists.mp h.top
  obtain ⟨r, hr⟩ := State.topJava?_eq_some.mp hg0
  have hr' : (({ U with heap := s₂.heap, slotsUsed := s₂.slotsUsed } : State).setVm s₂.vm).frames = .java g₀ :: r := hr
  rcases hq' with ⟨hqc, L, hfe, hL⟩ | ⟨q, rfl, E, ce, L, hx, hce, hcv, hcl, hW₂, hsm, hL⟩
  · obtain ⟨⟨v, rfl⟩, hW₂, e2, q2, q3, q4, q5, q6⟩ := id hfe
    have e3 : s₂ = ({ (U.calling g mk a).setFrames s₂.frames with heap := s₂.heap, slotsUsed := s₂.slotsUsed } : State).setVm s₂.vm := by
      have : s₂ = ({ s₂ with vm := (U.calling g mk a).vm } : State).setVm s₂.vm := rfl
      rw [e2] at this
      exact this
    obtain ⟨c₂, i₂, len₂, hc₂, hd₂, hf₂⟩ := hend
    have hW' : U.WarmedH s₂.vm := hW₂
    have hcc : c₂ = c := by
      have h1 : s₂.code? g.method = U.code? g.method := by
        rw [State.code?_eq, State.code?_eq, hW'.alike.method?]
      exact Option.some.inj (hc₂.symm.trans (h1.trans h.code))
    subst hcc
    have hlen : len₂ = len := by rw [hdg] at hd₂; cases hd₂; rfl
    subst hlen
    have hs₂ : s₂ = (({ U with heap := s₂.heap, slotsUsed := s₂.slotsUsed } : State).setVm s₂.vm).setTop { g with pc := g.pc + len₂, stack := v.toList ++ g.stack } := by
      refine e3.trans ?_
      rw [hf₂, State.calling_eq h.top, State.setFrames_setFrames, State.setTop_of_frames _ hr', hr]
      rfl
    have hsame : U.sameButNew ({ U with heap := s₂.heap, slotsUsed := s₂.slotsUsed } : State) L mc ms := by
      refine ⟨?_, q2, q3, q4, q5, q6⟩
      obtain ⟨t, ht, -⟩ := State.frames_cons hr
      show ({ U with heap := s₂.heap, slotsUsed := s₂.slotsUsed } : State) = { U.setFrames U.frames with heap := s₂.heap, slotsUsed := s₂.slotsUsed }
      rw [State.setFrames_self ht]
    subst hg
    refine Or.inl ⟨v, ⟨(({ U with heap := s₂.heap, slotsUsed := s₂.slotsUsed } : State).setVm s₂.vm), Ls ++ L, c0 + mc, s0 + ms⟩,
      ⟨X.admits, X.cas, X.clock, X.frames, X.room, X.hears, X.method, X.code, (X.here.setHeapUsed s₂.heap s₂.slotsUsed).setVm hW'.alike, X.tail, State.WarmedH.trans X.warmed hW', X.limits, X.bytes, X.same.trans (hsame.setVm s.vm)⟩,
      ⟨g, mk, s₂, L, rfl, rfl, hqc, rfl, hL, rfl, rfl⟩, ?_⟩
    show Steps p.tables e below _ ((({ U with heap := s₂.heap, slotsUsed := s₂.slotsUsed } : State).setVm s₂.vm).setTop { g with pc := g.pc + len₂, stack := v.toList ++ g.stack })
    rw [← hs₂]
    exact hsteps
  · obtain ⟨e2, q2, q3, q4, q5, q6⟩ := id hsm
    have e3 : s₂ = ({ (U.calling g mk a).setFrames s₂.frames with heap := s₂.heap, slotsUsed := s₂.slotsUsed } : State).setVm s₂.vm := by
      have : s₂ = ({ s₂ with vm := (U.calling g mk a).vm } : State).setVm s₂.vm := rfl
      rw [e2] at this
      exact this
    have hf₂ : s₂.frames = .throwing q :: .java g :: U.frames.tail := hend
    have hW' : U.WarmedH s₂.vm := hW₂
    have hs₂ : s₂ = ((({ U with heap := s₂.heap, slotsUsed := s₂.slotsUsed } : State).setVm s₂.vm).setTop g).pushFrame (.throwing q) := by
      refine e3.trans ?_
      rw [hf₂, State.calling_eq h.top, State.setFrames_setFrames, State.pushFrame, State.frames_setTop _ hr', State.setTop_of_frames _ hr', State.setFrames_setFrames, hr]
      rfl
    have hsame : U.sameButNew ({ U with heap := s₂.heap, slotsUsed := s₂.slotsUsed } : State) L mc ms := by
      refine ⟨?_, q2, q3, q4, q5, q6⟩
      obtain ⟨t, ht, -⟩ := State.frames_cons hr
      show ({ U with heap := s₂.heap, slotsUsed := s₂.slotsUsed } : State) = { U.setFrames U.frames with heap := s₂.heap, slotsUsed := s₂.slotsUsed }
      rw [State.setFrames_self ht]
    subst hg
    refine Or.inr ⟨q, ⟨(({ U with heap := s₂.heap, slotsUsed := s₂.slotsUsed } : State).setVm s₂.vm), Ls ++ L, c0 + mc, s0 + ms⟩,
      ⟨X.admits, X.cas, X.clock, X.frames, X.room, X.hears, X.method, X.code, (X.here.setHeapUsed s₂.heap s₂.slotsUsed).setVm hW'.alike, X.tail, State.WarmedH.trans X.warmed hW', X.limits, X.bytes, X.same.trans (hsame.setVm s.vm)⟩,
      ⟨g, mk, s₂, L, E, ce, rfl, rfl, hx, hce, hcv, hcl, rfl, hL, rfl, rfl⟩, ?_⟩
    show Steps p.tables e below _ (((({ U with heap := s₂.heap, slotsUsed := s₂.slotsUsed } : State).setVm s₂.vm).setTop g).pushFrame (.throwing q))
    rw [← hs₂]
    exact hsteps
end Payer
section Calls
variable {p : Program} {l : Launch} {e : Env} {R : Room} {s : State} {m : MethodId} {args : Array Value} {below : List Frame} {meth : Method} {c : Code} {T : State} {locs : List Loc} {cells slots : Nat}
theorem vx_callV (X : Stand p l e R s m args below meth c T locs cells slots) (hexec : p.tables.exec = Jvm.exec) {own C : String} {index : Nat} {y : MethodName} {bytes : ByteArray} {maxL : Nat} {ret : Option FieldType}
    (hown : s.vm.findClass own = some m.cls) (hlink : (Cond.methodLink own index y).before args s = true) (hinst : (Cond.instanceMethod y).before args s = true) (hsel : (Cond.selects C y y).before args s = true)
    (hcode : (Cond.code y bytes maxL ret).before args s = true) (hy : y.cls ≠ "java/lang/invoke/MethodHandle" ∧ y.cls ≠ "java/lang/invoke/VarHandle")
    {W9 : Nat} {Pre : Pt → Array Value → Prop} {Post : Pt → Array Value → Option Value → Pt → Prop} {PostX : Pt → Array Value → Addr → Pt → Prop} (hK : vx_Back l R p e below s args y 3 W9 Pre Post PostX)
    {b : Addr} {cellB : Cell} (hcell : T.heap[b]? = some cellB) (hobj : cellB.vm.isStatics = false) (hcls : s.vm.findClass C = some cellB.cls)
    {g : JFrame} (hg : g.method = m) (hsize : g.locals.size = c.maxLocals) {argsL rest : List Value} (hlen : ∀ sig, parseMethodDescriptor y.desc = some sig → argsL.length = sig.parameters.length)
    (hstack : g.stack = argsL.reverse ++ .ref b :: rest) (hW : 2 * g.monitorRoom + (rest.map fun v => v.category).sum ≤ W9) (hdg : decode c.code g.pc = .ok (.invokevirtual index, 3))
    (hpre : ∀ vm₁, s.WarmedH vm₁ → Pre ⟨T.setVm vm₁, locs, cells, slots⟩ (Value.ref b :: argsL).toArray) :
    (∃ (v : Option Value) (vm₁ : Vm) (B : Pt), s.WarmedH vm₁ ∧ Stand p l e R s m args below meth c B.U B.locs B.cells B.slots ∧ Post ⟨T.setVm vm₁, locs, cells, slots⟩ (Value.ref b :: argsL).toArray v B ∧
      ∀ target, Steps p.tables e below (B.U.setTop { g with pc := g.pc + 3, stack := v.toList ++ rest }) target → Steps p.tables e below (T.setTop g) target) ∨
    (∃ (q : Addr) (vm₁ : Vm) (B : Pt), s.WarmedH vm₁ ∧ Stand p l e R s m args below meth c B.U B.locs B.cells B.slots ∧ PostX ⟨T.setVm vm₁, locs, cells, slots⟩ (Value.ref b :: argsL).toArray q B ∧
      Steps p.tables e below (T.setTop g) ((B.U.setTop { g with stack := rest }).pushFrame (.throwing q))) := by
  obtain ⟨mk, methM, hnamed, hmethM, hstM, habM⟩ := Cond.instanceMethod_spec hinst
  obtain ⟨methM', cM, hmethM', -, -, -, -, -, -, hsigM⟩ := Cond.code_spec hnamed hcode
  cases hmethM.symm.trans hmethM'
  obtain ⟨c2, r2, m2, q1, q2, q3, q4, kP, hkP, hkPi⟩ := Cond.selects_spec hsel
  cases hcls.symm.trans q1
  cases (State.methodFound?_of_named hnamed hy).symm.trans q2
  cases hnamed.symm.trans q3
  have hselP : selectMethod e.platform s.vm cellB.cls mk = .method mk := by rw [Launch.admits_selectMethod X.admits]; exact q4
  obtain ⟨vm₁, X₁, hstep₁⟩ := X.invokevirtual hexec hown hlink hnamed hmethM hstM hkP hkPi hy (a := b) (cell := cellB) hcell
    (fun z h => by rw [h] at hobj; cases hobj) hselP hmethM habM hkP hkPi (g := g) hg (argsL := argsL) (rest := rest) (hlen _ hsigM) hstack hdg
  rcases hK m meth c ⟨T.setVm vm₁, locs, cells, slots⟩ { g with stack := rest } (.invokevirtual index) mk (Value.ref b :: argsL).toArray X₁ hg hsize hdg hW (X₁.named hnamed) (hpre vm₁ X₁.warmed) with ⟨v, B, X', hpost, hsteps⟩ | ⟨q, B, X', hpost, hsteps⟩
  · exact Or.inl ⟨v, vm₁, B, X₁.warmed, X', hpost, fun target h => hstep₁ _ fun acts => by rw [doInvoke_state]; exact hsteps.trans h⟩
  · exact Or.inr ⟨q, vm₁, B, X₁.warmed, X', hpost, hstep₁ _ fun acts => by rw [doInvoke_state]; exact hsteps⟩
theorem vx_callS (X : Stand p l e R s m args below meth c T locs cells slots) (hexec : p.tables.exec = Jvm.exec) {own : String} {index : Nat} {y : MethodName} {bytes : ByteArray} {maxL : Nat} {ret : Option FieldType}
    (hown : s.vm.findClass own = some m.cls) (hlink : (Cond.methodLink own index y).before args s = true) (hstat : (Cond.static y).before args s = true) (hinit : (Cond.initialized y.cls).before args s = true)
    (hcode : (Cond.code y bytes maxL ret).before args s = true) (hy : y.cls ≠ "java/lang/invoke/MethodHandle" ∧ y.cls ≠ "java/lang/invoke/VarHandle")
    {W9 : Nat} {Pre : Pt → Array Value → Prop} {Post : Pt → Array Value → Option Value → Pt → Prop} {PostX : Pt → Array Value → Addr → Pt → Prop} (hK : vx_Back l R p e below s args y 3 W9 Pre Post PostX)
    {g : JFrame} (hg : g.method = m) (hsize : g.locals.size = c.maxLocals) {argsL rest : List Value} (hlen : ∀ sig, parseMethodDescriptor y.desc = some sig → argsL.length = sig.parameters.length)
    (hstack : g.stack = argsL.reverse ++ rest) (hW : 2 * g.monitorRoom + (rest.map fun v => v.category).sum ≤ W9) (hdg : decode c.code g.pc = .ok (.invokestatic index, 3))
    (hpre : ∀ vm₁, s.WarmedH vm₁ → Pre ⟨T.setVm vm₁, locs, cells, slots⟩ argsL.toArray) :
    (∃ (v : Option Value) (vm₁ : Vm) (B : Pt), s.WarmedH vm₁ ∧ Stand p l e R s m args below meth c B.U B.locs B.cells B.slots ∧ Post ⟨T.setVm vm₁, locs, cells, slots⟩ argsL.toArray v B ∧
      ∀ target, Steps p.tables e below (B.U.setTop { g with pc := g.pc + 3, stack := v.toList ++ rest }) target → Steps p.tables e below (T.setTop g) target) ∨
    (∃ (q : Addr) (vm₁ : Vm) (B : Pt), s.WarmedH vm₁ ∧ Stand p l e R s m args below meth c B.U B.locs B.cells B.slots ∧ PostX ⟨T.setVm vm₁, locs, cells, slots⟩ argsL.toArray q B ∧
      Steps p.tables e below (T.setTop g) ((B.U.setTop { g with stack := rest }).pushFrame (.throwing q))) := by
  obtain ⟨mk, hnamed⟩ := Cond.code_named hcode
  obtain ⟨methM, cM, hmethM, -, -, -, -, -, -, hsigM⟩ := Cond.code_spec hnamed hcode
  have hstatic : methM.isStatic = true := Cond.static_spec hnamed hmethM hstat
  obtain ⟨kP, hkP, -⟩ := className_of_methodNamed hnamed
  have hinitP : kP.init = .initialized := Cond.initialized_spec (findClass_of_methodNamed hnamed) hkP hinit
  obtain ⟨vm₁, X₁, hstep₁⟩ := X.invokestatic hexec hown hlink hnamed hmethM hstatic hkP hinitP hy (g := g) hg (argsL := argsL) (rest := rest) (hlen _ hsigM) hstack hdg
  rcases hK m meth c ⟨T.setVm vm₁, locs, cells, slots⟩ { g with stack := rest } (.invokestatic index) mk argsL.toArray X₁ hg hsize hdg hW (X₁.named hnamed) (hpre vm₁ X₁.warmed) with ⟨v, B, X', hpost, hsteps⟩ | ⟨q, B, X', hpost, hsteps⟩
  · exact Or.inl ⟨v, vm₁, B, X₁.warmed, X', hpost, fun target h => hstep₁ _ fun acts => by rw [doInvoke_state]; exact hsteps.trans h⟩
  · exact Or.inr ⟨q, vm₁, B, X₁.warmed, X', hpost, hstep₁ _ fun acts => by rw [doInvoke_state]; exact hsteps⟩
end Calls
theorem vx_cls {s : State} {T : State} {vm₁ : Vm} {E : String} {k : ClassId} (hW : s.WarmedH vm₁) (h : (T.setVm vm₁).vm.findClass E = some k) : s.vm.findClass E = some k := by
  have h1 : vm₁.findClass E = some k := h
  rw [hW.alike.findClass] at h1
  exact h1
/-- the method's frame g, with q thrown over it -/
def vx_W (p : Program) (l : Launch) (e : Env) (R : Room) (s : State) (m : MethodId) (args : Array Value) (below : List Frame) (meth : Method) (c : Code) (H : Heap) (locs : List Loc) (cells slots : Nat) (Q : State → Prop) (g : JFrame) (q : Addr) : Prop :=
  ∀ T : State, T.heap = H → Stand p l e R s m args below meth c T locs cells slots → ∃ t, Steps p.tables e below ((T.setTop g).pushFrame (.throwing q)) t ∧ Q t
def vx_Run (p : Program) (l : Launch) (e : Env) (R : Room) (s : State) (m : MethodId) (args : Array Value) (below : List Frame) (meth : Method) (c : Code) (H : Heap) (locs : List Loc) (cells slots mc ms : Nat) (g : JFrame) (rest : List Value) (Qa : State → Outcome → State → Prop) (XC : String → State → State → Prop) (free : Addr → Prop) : Prop :=
  ∀ T : State, T.heap = H → Stand p l e R s m args below meth c T locs cells slots →
    (∃ (v : Option Value) (st₀ t T' : State) (L : List Loc), st₀.heap = H ∧ Stand p l e R s m args below meth c T' (locs ++ L) (cells + mc) (slots + ms) ∧ (∀ q ∈ L, free q.base) ∧ T'.heap = t.heap ∧ T'.vm = t.vm ∧ Qa st₀ (.returned v) t ∧
      Goes p e below T g T' { g with pc := g.pc + 3, stack := v.toList ++ rest }) ∨
    (∃ (q : Addr) (st₀ t T' : State) (L : List Loc) (E : String) (ce : Cell), st₀.heap = H ∧ Stand p l e R s m args below meth c T' (locs ++ L) (cells + mc) (slots + ms) ∧ (∀ z ∈ L, free z.base) ∧ T'.heap = t.heap ∧ T'.vm = t.vm ∧ XC E st₀ t ∧ t.heap[q]? = some ce ∧ ce.vm = .none ∧ s.vm.findClass E = some ce.cls ∧
      Steps p.tables e below (T.setTop g) ((T'.setTop { g with stack := rest }).pushFrame (.throwing q)))
def vx_X {S : Type} (px : S → Prop) (B : String → S → State → Prop) (A : Nat → Prop) : String → State → State → Prop := fun E st t => ∃ u : S, px u ∧ B E u t ∧ va_F A st t
section Runs
variable {p : Program} {l : Launch} {e : Env} {R : Room} {s : State} {m : MethodId} {args : Array Value} {below : List Frame} {meth : Method} {c : Code} {H : Heap} {locs : List Loc} {cells slots : Nat}
variable {y : MethodName} {bytes cc : ByteArray} {maxL nL mc ms n index : Nat} {ret : Option FieldType} {ws : List Cond} {rm : Room} {Pc : Array Value → State → Prop} {Qc : Array Value → State → Outcome → State → Prop} {XC : String → State → State → Prop} {free : Addr → Prop} {Ts : List Cond} {own C : String} {b : Addr} {As rest : List Value} {g : JFrame}
theorem vx_callBack (cb : CallB R s args own index y bytes maxL ret ws rm mc ms n) (hM : vx_Met l y ws rm Pc Qc XC mc ms free) (hbl : FrameBlind Pc) : vx_Back l R p e below s args y 3 8 (PreOf R mc ms Pc) (PostOf Qc mc ms free) (vx_Post XC mc ms free) := by
  obtain ⟨hrc, hrs, hfr, hlo, hws, hcw, -, hini, -⟩ := cb
  exact vx_back (bytes := bytes) (maxL := maxL) (ret := ret) hM hbl hrc hrs hfr hlo hws hcw (fun a' U hW => word_at hW (Or.inl (by first | rfl | simp [Cond.onTables, Cond.keeps, Cond.steady])) hini)
theorem vx_runV (S : CallFix p m c cc nL s args Ts own) (hM : vx_Met l y ws rm Pc Qc XC mc ms free) (cw : CallW R s args own C index y bytes maxL ret ws rm mc ms n) (hp : PreV s H C b Pc As)
    (hg : g.method = m) (hn : As.length = n) (hsize : g.locals.size = nL) (hstack : g.stack = As.reverse ++ .ref b :: rest) (hW : 2 * g.monitorRoom + (rest.map fun v => v.category).sum ≤ 8) (hdg : decode cc g.pc = .ok (.invokevirtual index, 3)) (hf : cells + mc ≤ R.cells ∧ slots + ms ≤ R.slots) :
    vx_Run p l e R s m args below meth c H locs cells slots mc ms g rest (Qc (Value.ref b :: As).toArray) XC free := by
  have hK : vx_Back l R p e below s args y 3 8 (PreOf R mc ms Pc) (PostOf Qc mc ms free) (vx_Post XC mc ms free) := vx_callBack cw.1 hM hp.1
  obtain ⟨⟨-, -, -, -, -, -, hcode, -, hy, hlen, hl⟩, hin, hse⟩ := cw
  obtain ⟨hx, hb, hml, ho, -⟩ := S
  obtain ⟨-, ⟨cellB, hcB, hoB, hclB⟩, hPc⟩ := hp
  intro T hT X
  rcases vx_callV X hx (C := C) (bytes := bytes) (maxL := maxL) (ret := ret) ho hl hin hse hcode hy hK (by rw [hT]; exact hcB) hoB hclB hg (hsize.trans hml.symm) (argsL := As) (rest := rest) (fun sig h => hn.trans (hlen sig h)) hstack hW (by rw [hb]; exact hdg)
    (fun vm₁ hW₁ => ⟨hf.1, hf.2, hPc (T.setVm vm₁) hT hW₁⟩) with ⟨v, vm₁, ⟨U', l2, c2, s2⟩, hW₁, X', ⟨g', mk, t, L, e1, e2, hq, h1, hL, h2, h3⟩, st⟩ | ⟨q, vm₁, ⟨U', l2, c2, s2⟩, hW₁, X', ⟨g', mk, t, L, E, ce, e1, e2, hq, hce, hcv, hcl, h1, hL, h2, h3⟩, st⟩
  · dsimp only [Pt.U, Pt.locs, Pt.cells, Pt.slots] at X' e1 e2 h1 h2 h3 st
    subst h1; subst h2; subst h3
    exact Or.inl ⟨v, (T.setVm vm₁).calling g' mk (Value.ref b :: As).toArray, t, U', L, hT, X', hL, e1, e2, hq, st⟩
  · dsimp only [Pt.U, Pt.locs, Pt.cells, Pt.slots] at X' e1 e2 h1 h2 h3 st hcl
    subst h1; subst h2; subst h3
    exact Or.inr ⟨q, (T.setVm vm₁).calling g' mk (Value.ref b :: As).toArray, t, U', L, E, ce, hT, X', hL, e1, e2, hq, hce, hcv, vx_cls hW₁ hcl, st⟩
theorem vx_runS (S : CallFix p m c cc nL s args Ts own) (hM : vx_Met l y ws rm Pc Qc XC mc ms free) (cw : CallB R s args own index y bytes maxL ret ws rm mc ms n ∧ (Cond.static y).before args s = true) (hp : PreS s H Pc As)
    (hg : g.method = m) (hn : As.length = n) (hsize : g.locals.size = nL) (hstack : g.stack = As.reverse ++ rest) (hW : 2 * g.monitorRoom + (rest.map fun v => v.category).sum ≤ 8) (hdg : decode cc g.pc = .ok (.invokestatic index, 3)) (hf : cells + mc ≤ R.cells ∧ slots + ms ≤ R.slots) :
    vx_Run p l e R s m args below meth c H locs cells slots mc ms g rest (Qc As.toArray) XC free := by
  have hK : vx_Back l R p e below s args y 3 8 (PreOf R mc ms Pc) (PostOf Qc mc ms free) (vx_Post XC mc ms free) := vx_callBack cw.1 hM hp.1
  obtain ⟨⟨-, -, -, -, -, -, hcode, hini, hy, hlen, hl⟩, hstt⟩ := cw
  obtain ⟨hx, hb, hml, ho, -⟩ := S
  intro T hT X
  rcases vx_callS X hx (bytes := bytes) (maxL := maxL) (ret := ret) ho hl hstt hini hcode hy hK hg (hsize.trans hml.symm) (argsL := As) (rest := rest) (fun sig h => hn.trans (hlen sig h)) hstack hW (by rw [hb]; exact hdg)
    (fun vm₁ hW₁ => ⟨hf.1, hf.2, hp.2 (T.setVm vm₁) hT hW₁⟩) with ⟨v, vm₁, ⟨U', l2, c2, s2⟩, hW₁, X', ⟨g', mk, t, L, e1, e2, hq, h1, hL, h2, h3⟩, st⟩ | ⟨q, vm₁, ⟨U', l2, c2, s2⟩, hW₁, X', ⟨g', mk, t, L, E, ce, e1, e2, hq, hce, hcv, hcl, h1, hL, h2, h3⟩, st⟩
  · dsimp only [Pt.U, Pt.locs, Pt.cells, Pt.slots] at X' e1 e2 h1 h2 h3 st
    subst h1; subst h2; subst h3
    exact Or.inl ⟨v, (T.setVm vm₁).calling g' mk As.toArray, t, U', L, hT, X', hL, e1, e2, hq, st⟩
  · dsimp only [Pt.U, Pt.locs, Pt.cells, Pt.slots] at X' e1 e2 h1 h2 h3 st hcl
    subst h1; subst h2; subst h3
    exact Or.inr ⟨q, (T.setVm vm₁).calling g' mk As.toArray, t, U', L, E, ce, hT, X', hL, e1, e2, hq, hce, hcv, vx_cls hW₁ hcl, st⟩
end Runs
section Rows
variable {p : Program} {l : Launch} {e : Env} {R : Room} {s : State} {m : MethodId} {args : Array Value} {below : List Frame} {meth : Method} {c : Code} {H : Heap} {locs : List Loc} {cells slots : Nat} {Q : State → Prop}
variable {mc ms : Nat} {free : Addr → Prop} {A0 A1 : Nat → Prop} {H0 : Heap} {a : Array Value} {pc : Nat} {ls : Array Slot} {st0 rest : List Value}
theorem vx_keep {st₀ t T' : State} {L : List Loc} (h0 : st₀.heap = H) (e1 : T'.heap = t.heap) (hS : va_S A0 H0 H locs) (hA : ∀ q, q < H.size → A1 q → A0 q) (hf : ∀ q, free q → A0 q) (hL : ∀ q ∈ L, free q.base) (hF : va_F A1 st₀ t) :
    H.size ≤ T'.heap.size ∧ (∀ q : Nat, q < H.size → ¬ A1 q → T'.heap[q]? = H[q]?) ∧ va_S A0 H0 T'.heap (locs ++ L) := by
  obtain ⟨hz, hk⟩ := hF
  rw [h0] at hz hk
  exact ⟨by rw [e1]; exact hz, fun q h1 h2 => by rw [e1]; exact hk q h1 h2,
    ⟨Nat.le_trans hS.1 (by rw [e1]; exact hz), fun q h1 h2 => by rw [e1, hk q (Nat.lt_of_lt_of_le h1 hS.1) (fun z => h2 (hA q (Nat.lt_of_lt_of_le h1 hS.1) z))]; exact hS.2.1 q h1 h2, fun q hq => by
      rcases List.mem_append.mp hq with h | h
      · exact hS.2.2 q h
      · exact hf _ (hL q h)⟩⟩
theorem vx_calli {S SX : Type} {post : Int32 → S → Prop} {px : SX → Prop} {B : S → State → Prop} {BX : String → SX → State → Prop} {AX : Nat → Prop} (hr : vx_Run p l e R s m args below meth c H locs cells slots mc ms (F0 m pc ls st0) rest (va_Qi post B A1 a) (vx_X px BX AX) free) (hS : va_S A0 H0 H locs) (hA : ∀ q, q < H.size → A1 q → A0 q) (hf : ∀ q, free q → A0 q) (hAX : ∀ q, q < H.size → AX q → A0 q)
    (kx : ∀ (E : String) (ce : Cell) (q9 : Addr) (u : SX) (t : State) (H1 : Heap) (locs1 : List Loc), t.heap = H1 → s.vm.Alike t.vm → px u → BX E u t → H.size ≤ H1.size → (∀ q : Nat, q < H.size → ¬ AX q → H1[q]? = H[q]?) → va_S A0 H0 H1 locs1 → H1[q9]? = some ce → ce.vm = .none → s.vm.findClass E = some ce.cls → vx_W p l e R s m args below meth c H1 locs1 (cells + mc) (slots + ms) Q (F0 m pc ls rest) q9)
    (kk : ∀ (r : Int32) (u : S) (t : State) (H1 : Heap) (locs1 : List Loc), t.heap = H1 → s.vm.Alike t.vm → post r u → B u t → H.size ≤ H1.size → (∀ q : Nat, q < H.size → ¬ A1 q → H1[q]? = H[q]?) → va_S A0 H0 H1 locs1 → W p l e R s m args below meth c H1 locs1 (cells + mc) (slots + ms) Q (F0 m (pc + 3) ls (.int r :: rest))) : W p l e R s m args below meth c H locs cells slots Q (F0 m pc ls st0) := by
  intro T hT X
  rcases hr T hT X with ⟨v, st₀, t, T', L, h0, X', hL, e1, e2, ⟨⟨r, u, hv, hp, hb⟩, hF⟩, st⟩ | ⟨q, st₀, t, T', L, E, ce, h0, X', hL, e1, e2, ⟨u, hp, hb, hF⟩, hce, hcv, hcl, st⟩
  · cases hv
    obtain ⟨k1, k2, k3⟩ := vx_keep h0 e1 hS hA hf hL hF
    obtain ⟨t2, a1, b1⟩ := kk r u t T'.heap (locs ++ L) e1.symm (by rw [← e2]; exact X'.warmed.alike) hp hb k1 k2 k3 T' rfl X'
    exact ⟨t2, st t2 a1, b1⟩
  · obtain ⟨k1, k2, k3⟩ := vx_keep h0 e1 hS hAX hf hL hF
    obtain ⟨t2, a1, b1⟩ := kx E ce q u t T'.heap (locs ++ L) e1.symm (by rw [← e2]; exact X'.warmed.alike) hp hb k1 k2 k3 (by rw [e1]; exact hce) hcv hcl T' rfl X'
    exact ⟨t2, st.trans a1, b1⟩
theorem vx_calll {S SX : Type} {post : Int64 → S → Prop} {px : SX → Prop} {B : S → State → Prop} {BX : String → SX → State → Prop} {AX : Nat → Prop} (hr : vx_Run p l e R s m args below meth c H locs cells slots mc ms (F0 m pc ls st0) rest (va_Ql post B A1 a) (vx_X px BX AX) free) (hS : va_S A0 H0 H locs) (hA : ∀ q, q < H.size → A1 q → A0 q) (hf : ∀ q, free q → A0 q) (hAX : ∀ q, q < H.size → AX q → A0 q)
    (kx : ∀ (E : String) (ce : Cell) (q9 : Addr) (u : SX) (t : State) (H1 : Heap) (locs1 : List Loc), t.heap = H1 → s.vm.Alike t.vm → px u → BX E u t → H.size ≤ H1.size → (∀ q : Nat, q < H.size → ¬ AX q → H1[q]? = H[q]?) → va_S A0 H0 H1 locs1 → H1[q9]? = some ce → ce.vm = .none → s.vm.findClass E = some ce.cls → vx_W p l e R s m args below meth c H1 locs1 (cells + mc) (slots + ms) Q (F0 m pc ls rest) q9)
    (kk : ∀ (r : Int64) (u : S) (t : State) (H1 : Heap) (locs1 : List Loc), t.heap = H1 → s.vm.Alike t.vm → post r u → B u t → H.size ≤ H1.size → (∀ q : Nat, q < H.size → ¬ A1 q → H1[q]? = H[q]?) → va_S A0 H0 H1 locs1 → W p l e R s m args below meth c H1 locs1 (cells + mc) (slots + ms) Q (F0 m (pc + 3) ls (.long r :: rest))) : W p l e R s m args below meth c H locs cells slots Q (F0 m pc ls st0) := by
  intro T hT X
  rcases hr T hT X with ⟨v, st₀, t, T', L, h0, X', hL, e1, e2, ⟨⟨r, u, hv, hp, hb⟩, hF⟩, st⟩ | ⟨q, st₀, t, T', L, E, ce, h0, X', hL, e1, e2, ⟨u, hp, hb, hF⟩, hce, hcv, hcl, st⟩
  · cases hv
    obtain ⟨k1, k2, k3⟩ := vx_keep h0 e1 hS hA hf hL hF
    obtain ⟨t2, a1, b1⟩ := kk r u t T'.heap (locs ++ L) e1.symm (by rw [← e2]; exact X'.warmed.alike) hp hb k1 k2 k3 T' rfl X'
    exact ⟨t2, st t2 a1, b1⟩
  · obtain ⟨k1, k2, k3⟩ := vx_keep h0 e1 hS hAX hf hL hF
    obtain ⟨t2, a1, b1⟩ := kx E ce q u t T'.heap (locs ++ L) e1.symm (by rw [← e2]; exact X'.warmed.alike) hp hb k1 k2 k3 (by rw [e1]; exact hce) hcv hcl T' rfl X'
    exact ⟨t2, st.trans a1, b1⟩
theorem vx_callf {S SX : Type} {post : UInt32 → S → Prop} {px : SX → Prop} {B : S → State → Prop} {BX : String → SX → State → Prop} {AX : Nat → Prop} (hr : vx_Run p l e R s m args below meth c H locs cells slots mc ms (F0 m pc ls st0) rest (va_Qf post B A1 a) (vx_X px BX AX) free) (hS : va_S A0 H0 H locs) (hA : ∀ q, q < H.size → A1 q → A0 q) (hf : ∀ q, free q → A0 q) (hAX : ∀ q, q < H.size → AX q → A0 q)
    (kx : ∀ (E : String) (ce : Cell) (q9 : Addr) (u : SX) (t : State) (H1 : Heap) (locs1 : List Loc), t.heap = H1 → s.vm.Alike t.vm → px u → BX E u t → H.size ≤ H1.size → (∀ q : Nat, q < H.size → ¬ AX q → H1[q]? = H[q]?) → va_S A0 H0 H1 locs1 → H1[q9]? = some ce → ce.vm = .none → s.vm.findClass E = some ce.cls → vx_W p l e R s m args below meth c H1 locs1 (cells + mc) (slots + ms) Q (F0 m pc ls rest) q9)
    (kk : ∀ (r : UInt32) (u : S) (t : State) (H1 : Heap) (locs1 : List Loc), t.heap = H1 → s.vm.Alike t.vm → post r u → B u t → H.size ≤ H1.size → (∀ q : Nat, q < H.size → ¬ A1 q → H1[q]? = H[q]?) → va_S A0 H0 H1 locs1 → W p l e R s m args below meth c H1 locs1 (cells + mc) (slots + ms) Q (F0 m (pc + 3) ls (.float r :: rest))) : W p l e R s m args below meth c H locs cells slots Q (F0 m pc ls st0) := by
  intro T hT X
  rcases hr T hT X with ⟨v, st₀, t, T', L, h0, X', hL, e1, e2, ⟨⟨r, u, hv, hp, hb⟩, hF⟩, st⟩ | ⟨q, st₀, t, T', L, E, ce, h0, X', hL, e1, e2, ⟨u, hp, hb, hF⟩, hce, hcv, hcl, st⟩
  · cases hv
    obtain ⟨k1, k2, k3⟩ := vx_keep h0 e1 hS hA hf hL hF
    obtain ⟨t2, a1, b1⟩ := kk r u t T'.heap (locs ++ L) e1.symm (by rw [← e2]; exact X'.warmed.alike) hp hb k1 k2 k3 T' rfl X'
    exact ⟨t2, st t2 a1, b1⟩
  · obtain ⟨k1, k2, k3⟩ := vx_keep h0 e1 hS hAX hf hL hF
    obtain ⟨t2, a1, b1⟩ := kx E ce q u t T'.heap (locs ++ L) e1.symm (by rw [← e2]; exact X'.warmed.alike) hp hb k1 k2 k3 (by rw [e1]; exact hce) hcv hcl T' rfl X'
    exact ⟨t2, st.trans a1, b1⟩
theorem vx_calld {S SX : Type} {post : UInt64 → S → Prop} {px : SX → Prop} {B : S → State → Prop} {BX : String → SX → State → Prop} {AX : Nat → Prop} (hr : vx_Run p l e R s m args below meth c H locs cells slots mc ms (F0 m pc ls st0) rest (va_Qd post B A1 a) (vx_X px BX AX) free) (hS : va_S A0 H0 H locs) (hA : ∀ q, q < H.size → A1 q → A0 q) (hf : ∀ q, free q → A0 q) (hAX : ∀ q, q < H.size → AX q → A0 q)
    (kx : ∀ (E : String) (ce : Cell) (q9 : Addr) (u : SX) (t : State) (H1 : Heap) (locs1 : List Loc), t.heap = H1 → s.vm.Alike t.vm → px u → BX E u t → H.size ≤ H1.size → (∀ q : Nat, q < H.size → ¬ AX q → H1[q]? = H[q]?) → va_S A0 H0 H1 locs1 → H1[q9]? = some ce → ce.vm = .none → s.vm.findClass E = some ce.cls → vx_W p l e R s m args below meth c H1 locs1 (cells + mc) (slots + ms) Q (F0 m pc ls rest) q9)
    (kk : ∀ (r : UInt64) (u : S) (t : State) (H1 : Heap) (locs1 : List Loc), t.heap = H1 → s.vm.Alike t.vm → post r u → B u t → H.size ≤ H1.size → (∀ q : Nat, q < H.size → ¬ A1 q → H1[q]? = H[q]?) → va_S A0 H0 H1 locs1 → W p l e R s m args below meth c H1 locs1 (cells + mc) (slots + ms) Q (F0 m (pc + 3) ls (.double r :: rest))) : W p l e R s m args below meth c H locs cells slots Q (F0 m pc ls st0) := by
  intro T hT X
  rcases hr T hT X with ⟨v, st₀, t, T', L, h0, X', hL, e1, e2, ⟨⟨r, u, hv, hp, hb⟩, hF⟩, st⟩ | ⟨q, st₀, t, T', L, E, ce, h0, X', hL, e1, e2, ⟨u, hp, hb, hF⟩, hce, hcv, hcl, st⟩
  · cases hv
    obtain ⟨k1, k2, k3⟩ := vx_keep h0 e1 hS hA hf hL hF
    obtain ⟨t2, a1, b1⟩ := kk r u t T'.heap (locs ++ L) e1.symm (by rw [← e2]; exact X'.warmed.alike) hp hb k1 k2 k3 T' rfl X'
    exact ⟨t2, st t2 a1, b1⟩
  · obtain ⟨k1, k2, k3⟩ := vx_keep h0 e1 hS hAX hf hL hF
    obtain ⟨t2, a1, b1⟩ := kx E ce q u t T'.heap (locs ++ L) e1.symm (by rw [← e2]; exact X'.warmed.alike) hp hb k1 k2 k3 (by rw [e1]; exact hce) hcv hcl T' rfl X'
    exact ⟨t2, st.trans a1, b1⟩
theorem vx_callv {S SX : Type} {post : S → Prop} {px : SX → Prop} {B : S → State → Prop} {BX : String → SX → State → Prop} {AX : Nat → Prop} (hr : vx_Run p l e R s m args below meth c H locs cells slots mc ms (F0 m pc ls st0) rest (va_Qv post B A1 a) (vx_X px BX AX) free) (hS : va_S A0 H0 H locs) (hA : ∀ q, q < H.size → A1 q → A0 q) (hf : ∀ q, free q → A0 q) (hAX : ∀ q, q < H.size → AX q → A0 q)
    (kx : ∀ (E : String) (ce : Cell) (q9 : Addr) (u : SX) (t : State) (H1 : Heap) (locs1 : List Loc), t.heap = H1 → s.vm.Alike t.vm → px u → BX E u t → H.size ≤ H1.size → (∀ q : Nat, q < H.size → ¬ AX q → H1[q]? = H[q]?) → va_S A0 H0 H1 locs1 → H1[q9]? = some ce → ce.vm = .none → s.vm.findClass E = some ce.cls → vx_W p l e R s m args below meth c H1 locs1 (cells + mc) (slots + ms) Q (F0 m pc ls rest) q9)
    (kk : ∀ (u : S) (t : State) (H1 : Heap) (locs1 : List Loc), t.heap = H1 → s.vm.Alike t.vm → post u → B u t → H.size ≤ H1.size → (∀ q : Nat, q < H.size → ¬ A1 q → H1[q]? = H[q]?) → va_S A0 H0 H1 locs1 → W p l e R s m args below meth c H1 locs1 (cells + mc) (slots + ms) Q (F0 m (pc + 3) ls (rest))) : W p l e R s m args below meth c H locs cells slots Q (F0 m pc ls st0) := by
  intro T hT X
  rcases hr T hT X with ⟨v, st₀, t, T', L, h0, X', hL, e1, e2, ⟨⟨u, hv, hp, hb⟩, hF⟩, st⟩ | ⟨q, st₀, t, T', L, E, ce, h0, X', hL, e1, e2, ⟨u, hp, hb, hF⟩, hce, hcv, hcl, st⟩
  · cases hv
    obtain ⟨k1, k2, k3⟩ := vx_keep h0 e1 hS hA hf hL hF
    obtain ⟨t2, a1, b1⟩ := kk u t T'.heap (locs ++ L) e1.symm (by rw [← e2]; exact X'.warmed.alike) hp hb k1 k2 k3 T' rfl X'
    exact ⟨t2, st t2 a1, b1⟩
  · obtain ⟨k1, k2, k3⟩ := vx_keep h0 e1 hS hAX hf hL hF
    obtain ⟨t2, a1, b1⟩ := kx E ce q u t T'.heap (locs ++ L) e1.symm (by rw [← e2]; exact X'.warmed.alike) hp hb k1 k2 k3 (by rw [e1]; exact hce) hcv hcl T' rfl X'
    exact ⟨t2, st.trans a1, b1⟩
/-- caught by the row x of this method's table; the rows ahead don't take it -/
theorem vx_catch {own name : String} {E : String} {ce : Cell} {q : Addr} (hown : s.vm.findClass own = some m.cls) (pre : List ExceptionTableEntry) (x : ExceptionTableEntry) (suf : List ExceptionTableEntry) (hsplit : c.exceptionTable.toList = pre ++ x :: suf)
    (hpass : ∀ z ∈ pre, covers z pc = false ∨ (z.catchType ≠ 0 ∧ ∃ nm : String, (Cond.classLink own z.catchType nm).before args s = true ∧ va_Nc E nm s)) (hx : covers x pc = true) (h0 : x.catchType ≠ 0)
    (hlink : (Cond.classLink own x.catchType name).before args s = true) (hcast : (Cond.castable E name).before args s = true) (hcell : H[q]? = some ce) (hv : ce.vm = .none) (hcl : s.vm.findClass E = some ce.cls)
    (kk : W p l e R s m args below meth c H locs cells slots Q (F0 m x.handlerPc ls [.ref q])) : vx_W p l e R s m args below meth c H locs cells slots Q (F0 m pc ls rest) q := by
  intro T hT X
  have hpl : e.platform.magicAccessors = ({} : Platform).magicAccessors := by rw [X.admits.platform]
  obtain ⟨c3, c4, hc3, hc4, hasg⟩ := Cond.castable_spec hcast
  cases Option.some.inj (hc3.symm.trans hcl)
  obtain ⟨c5, hc5, hcl5⟩ := Cond.classLink_spec hown hlink e.platform hpl
  cases Option.some.inj (hc4.symm.trans hc5)
  obtain ⟨vm', X', st⟩ := X.thenCaughtThrough q (g := F0 m pc ls rest) rfl (Steps.refl _) (by rw [hT]; exact hcell) (by rw [hv]; rfl) (by obtain ⟨k9, h9, -⟩ := Vm.findClass_spec hcl; exact ⟨k9, h9⟩) pre x suf hsplit
    (fun z hz => by
      rcases hpass z hz with h | ⟨hz0, nm, hl1, hn1⟩
      · exact Or.inl h
      · obtain ⟨c6, hc6, hcl6⟩ := Cond.classLink_spec hown hl1 e.platform hpl
        obtain ⟨a8, b8, h1, h2, h3⟩ := hn1
        cases Option.some.inj (h1.symm.trans hcl)
        cases Option.some.inj (h2.symm.trans hc6)
        exact Or.inr ⟨hz0, _, hcl6, h3⟩) hx (Or.inr ⟨h0, c4, hcl5, hasg⟩)
  obtain ⟨t, a1, b1⟩ := kk (T.setVm vm') hT X'
  exact ⟨t, st.trans a1, b1⟩
end Rows
section Ends
variable {p : Program} {l : Launch} {e : Env} {R : Room} {s : State} {m : MethodId} {args : Array Value} {below : List Frame} {meth : Method} {c : Code} {H : Heap} {locs : List Loc} {cells slots : Nat} {Q : State → Prop}
variable {mc ms : Nat} {free : Addr → Prop} {A0 A1 : Nat → Prop} {H0 : Heap} {a : Array Value} {ls : Array Slot} {st0 rest : List Value}
variable {Qc : Array Value → State → Outcome → State → Prop} {XC : String → State → State → Prop}
/-- what a body that may throw owes at its end -/
def vx_MQ (below : List Frame) (Qc : Array Value → State → Outcome → State → Prop) (XC : String → State → State → Prop) (a : Array Value) (s : State) (mc ms : Nat) (free : Addr → Prop) : State → Prop := fun t =>
  ∃ o, t.status = .running ∧ Ended t below o ∧ vx_Q Qc XC mc ms free a s o t
theorem vx_ret {g : JFrame} {mc ms : Nat} (k : W p l e R s m args below meth c H locs cells slots (MQ below Qc args s mc ms free) g) : W p l e R s m args below meth c H locs cells slots (vx_MQ below Qc XC args s mc ms free) g := by
  intro T hT X
  obtain ⟨t, a1, o, b1, b2, b3, b4⟩ := k T hT X
  exact ⟨t, a1, o, b1, b2, Or.inl ⟨b3, b4⟩⟩
/-- not caught here: it goes on to the caller -/
theorem vx_widen {g : JFrame} {q : Addr} {k n : Nat} (h1 : cells ≤ k) (h2 : slots ≤ n) (kk : vx_W p l e R s m args below meth c H locs k n Q g q) : vx_W p l e R s m args below meth c H locs cells slots Q g q := fun T hT X => kk T hT (stand_widen X h1 h2)
theorem vx_out {pc : Nat} {E : String} {ce : Cell} {q : Addr} {mc ms : Nat} (hout : ∀ x ∈ c.exceptionTable.toList, covers x pc = false) (hlocks : meth.locks = false) (hcell : H[q]? = some ce) (hv : ce.vm = .none) (hcl : s.vm.findClass E = some ce.cls)
    (hx : ∀ t : State, t.heap = H → s.vm.Alike t.vm → XC E s t) (hf : ∀ z ∈ locs, free z.base) (hc : cells ≤ mc) (hs : slots ≤ ms) :
    vx_W p l e R s m args below meth c H locs cells slots (vx_MQ below Qc XC args s mc ms free) (F0 m pc ls rest) q := by
  intro T hT X
  obtain ⟨st1, hrun, hend, hW, hsm⟩ := X.leaveThrown q (g := F0 m pc ls rest) rfl rfl rfl hout hlocks
  have hcell9 : (T.setFrames (.throwing q :: below)).heap[q]? = some ce := by
    show T.heap[q]? = some ce
    rw [hT]; exact hcell
  exact ⟨_, st1, .threw q, hrun, hend, Or.inr ⟨q, rfl, E, ce, locs, hx _ hT hW.alike, hcell9, hv, hcl, hW, hsm.mono hc hs, hf⟩⟩
theorem vx_frame {U : State} {k n : Nat} (h : s.sameButNew ({ U with vm := s.vm } : State) locs k n) : s.heap.size ≤ U.heap.size ∧ ∀ q : Nat, q < s.heap.size → (∀ z ∈ locs, z.base ≠ q) → U.heap[q]? = s.heap[q]? := by
  obtain ⟨-, h2, -, -, -, h6⟩ := h
  refine ⟨h2, fun q hq hz => ?_⟩
  obtain ⟨c9, e1, e2, e3, e4⟩ := h6 q _ (Array.getElem?_eq_getElem hq)
  have hs : c9.slots = (s.heap[q]).slots := Array.ext_getElem? fun i => e4 i fun hm => hz _ hm rfl
  have h9 : c9 = s.heap[q] := by
    rw [hs] at e2
    exact e2
  have e5 : U.heap[q]? = some c9 := e1
  rw [e5, h9, Array.getElem?_eq_getElem hq]
/-- the words of a throw but the four that speak of the heap -/
def vx_no (w : Cond) : Bool := decide (w ≠ .isRef (.static Bundle.tN "UNASSIGNED_STACK" Bundle.steD)) && decide (w ≠ .isRef (.static Bundle.tN "SUPPRESSED_SENTINEL" Bundle.listD)) && decide (w ≠ .laysStatic Bundle.tN "UNASSIGNED_STACK" Bundle.steD) && decide (w ≠ .laysStatic Bundle.tN "SUPPRESSED_SENTINEL" Bundle.listD)
def vx_at0 (own : String) (ic : Nat) (X : String) (names : List String) : List Cond := (Bundle.ownAtoms0 own ic X names).filter vx_no
def vx_atS (own : String) (ic : Nat) (X : String) (names : List String) : List Cond := (Bundle.ownAtoms own ic X names).filter vx_no
/-- a word that the tables alone decide, or a good one -/
def vx_ot (w : Cond) : Bool := w.onTables || goodWord w
theorem vx_ot_at {args a' : Array Value} {s U : State} {w : Cond} (hW : s.WarmedH U.vm) (hvm : s.vm = U.vm) (hg : vx_ot w = true) (h : w.before args s = true) : w.before a' U = true := by
  simp only [vx_ot, Bool.or_eq_true] at hg
  rcases hg with hg | hg
  · exact va_tabs hg hvm h
  · exact word_at hW (good_of_word hg) h
/-- a list's words: the good ones out of the method's own list, the others by premises of their own -/
theorem vx_hat {args : Array Value} {s : State} {L B : List Cond} (h1 : ∀ w ∈ L.filter goodWord, w.before args s = true) (h2 : ∀ w ∈ L.filter (fun w => !goodWord w), w ∈ B) (h3 : ∀ w ∈ B, w.before args s = true) : ∀ w ∈ L, w.before args s = true := by
  intro w hw
  by_cases g : goodWord w = true
  · exact h1 w (List.mem_filter.mpr ⟨hw, g⟩)
  · refine h3 w (h2 w (List.mem_filter.mpr ⟨hw, ?_⟩))
    show (!goodWord w) = true
    cases hgw : goodWord w
    · rfl
    · exact absurd hgw g
theorem vx_c {args : Array Value} {s : State} {w : Cond} {B : List Cond} (h : w.before args s = true) (t : ∀ w ∈ B, w.before args s = true) : ∀ w' ∈ w :: B, w'.before args s = true := fun w' h' => (List.mem_cons.mp h').elim (fun e => by rw [e]; exact h) (t w')
theorem vx_n {args : Array Value} {s : State} : ∀ w ∈ ([] : List Cond), w.before args s = true := fun _ h => nomatch h
theorem vx_own {args : Array Value} {s : State} {L : List Cond} (h1 : ∀ w ∈ L.filter vx_no, w.before args s = true)
    (hU : (Cond.isRef (.static Bundle.tN "UNASSIGNED_STACK" Bundle.steD)).before args s = true) (hN : (Cond.isRef (.static Bundle.tN "SUPPRESSED_SENTINEL" Bundle.listD)).before args s = true)
    (lU : (Cond.laysStatic Bundle.tN "UNASSIGNED_STACK" Bundle.steD).before args s = true) (lN : (Cond.laysStatic Bundle.tN "SUPPRESSED_SENTINEL" Bundle.listD).before args s = true) : ∀ w ∈ L, w.before args s = true := by
  intro w hw
  by_cases e1 : w = .isRef (.static Bundle.tN "UNASSIGNED_STACK" Bundle.steD)
  · rw [e1]; exact hU
  · by_cases e2 : w = .isRef (.static Bundle.tN "SUPPRESSED_SENTINEL" Bundle.listD)
    · rw [e2]; exact hN
    · by_cases e3 : w = .laysStatic Bundle.tN "UNASSIGNED_STACK" Bundle.steD
      · rw [e3]; exact lU
      · by_cases e4 : w = .laysStatic Bundle.tN "SUPPRESSED_SENTINEL" Bundle.listD
        · rw [e4]; exact lN
        · exact h1 w (List.mem_filter.mpr ⟨hw, by unfold vx_no; rw [decide_eq_true e1, decide_eq_true e2, decide_eq_true e3, decide_eq_true e4]; rfl⟩)
/-- where a static field lies, its class's statics cell in H -/
def vx_L (C n d : String) (A : Nat → Prop) (U : State) (H : Heap) : Prop := ∃ (c : ClassId) (k : Class) (i : Nat) (f : Field) (a : Nat) (cell : Cell), U.vm.findClass C = some c ∧ U.fieldFound? C n d = some (c, k, i, f) ∧ f.isStatic = true ∧ k.statics = some a ∧ H[a]? = some cell ∧ cell.vm.isStatics = true ∧ cell.cls = c ∧ f.slot < cell.slots.size ∧ k.staticTypes[f.slot]? = some f.type ∧ ¬ A a
theorem vx_L.moved {C n d : String} {A : Nat → Prop} {u U : State} {H : Heap} (hvm : u.vm.Alike U.vm) (h : vx_L C n d A u H) : vx_L C n d A U H := by
  obtain ⟨c, k, i, f, a, cell, h1, h2, h3, h4, h5, h6, h7, h8, h9, h10⟩ := h
  obtain ⟨k', hi', he⟩ := State.fieldFound?_setVm hvm h2
  exact ⟨c, k', i, f, a, cell, by rw [hvm.findClass]; exact h1, hi', h3, by rw [he]; exact h4, h5, h6, h7, h8, by rw [he]; exact h9, h10⟩
theorem vx_L.kept {C n d : String} {A : Nat → Prop} {U : State} {H H1 : Heap} (h : vx_L C n d A U H) (hq : ∀ a : Nat, a < H.size → ¬ A a → H1[a]? = H[a]?) : vx_L C n d A U H1 := by
  obtain ⟨c, k, i, f, a, cell, h1, h2, h3, h4, h5, h6, h7, h8, h9, h10⟩ := h
  exact ⟨c, k, i, f, a, cell, h1, h2, h3, h4, by rw [hq a (Array.getElem?_eq_some_iff.mp h5).1 h10]; exact h5, h6, h7, h8, h9, h10⟩
theorem vx_L.narrow {C n d : String} {A B : Nat → Prop} {U : State} {H : Heap} (h : vx_L C n d A U H) (hAB : ∀ q, B q → A q) : vx_L C n d B U H := by
  obtain ⟨c, k, i, f, a, cell, h1, h2, h3, h4, h5, h6, h7, h8, h9, h10⟩ := h
  exact ⟨c, k, i, f, a, cell, h1, h2, h3, h4, h5, h6, h7, h8, h9, fun z => h10 (hAB _ z)⟩
theorem vx_L.word {C n d : String} {A : Nat → Prop} {s : State} {args : Array Value} (h : vx_L C n d A s s.heap) : (Cond.laysStatic C n d).before args s = true := by
  obtain ⟨c, k, i, f, a, cell, h1, h2, h3, h4, h5, h6, h7, h8, h9, -⟩ := h
  show (Cond.laysStatic C n d).holds args s none s [] = true
  exact Cond.laysStatic_of h1 h2 h3 h4 h5 h6 h7 h8 h9
/-- .. and what it holds: null or some reference -/
def vx_Zq (C n d : String) (A : Nat → Prop) (U : State) (H : Heap) : Prop := va_Zq C n d A U H ∧ vx_L C n d A U H
theorem vx_Zq.moved {C n d : String} {A : Nat → Prop} {u U : State} {H : Heap} (hvm : u.vm.Alike U.vm) (h : vx_Zq C n d A u H) : vx_Zq C n d A U H := ⟨va_Zq.moved hvm h.1, vx_L.moved hvm h.2⟩
theorem vx_Zq.kept {C n d : String} {A : Nat → Prop} {U : State} {H H1 : Heap} (h : vx_Zq C n d A U H) (hq : ∀ a : Nat, a < H.size → ¬ A a → H1[a]? = H[a]?) : vx_Zq C n d A U H1 := ⟨va_Zq.kept h.1 hq, vx_L.kept h.2 hq⟩
theorem vx_Zq.narrow {C n d : String} {A B : Nat → Prop} {U : State} {H : Heap} (h : vx_Zq C n d A U H) (hAB : ∀ q, B q → A q) : vx_Zq C n d B U H := ⟨va_Zq.narrow h.1 hAB, vx_L.narrow h.2 hAB⟩
theorem vx_Zqof {args : Array Value} {s : State} {C n d : String} {A : Nat → Prop} (hl : (Cond.laysStatic C n d).before args s = true) (hini : (Cond.initialized C).before args s = true) (h : (Cond.isRef (.static C n d)).before args s = true) (hA : ∀ a : Nat, a < s.heap.size → ¬ A a) : vx_Zq C n d A s s.heap := by
  refine ⟨va_Zqof hl hini h hA, ?_⟩
  obtain ⟨c, k, i, f, a, cell, h1, h2, h3, h4, h5, h6, h7, h8, h9⟩ := Cond.laysStatic_spec hl
  exact ⟨c, k, i, f, a, cell, h1, h2, h3, h4, h5, h6, h7, h8, h9, hA a (Array.getElem?_eq_some_iff.mp h5).1⟩
theorem vx_isRef {C n d : String} {v : Value} {A : Nat → Prop} {s : State} {args : Array Value} (h : va_Z C n d v A s s.heap) (hv : v.isRef = true) : (Cond.isRef (.static C n d)).before args s = true := by
  obtain ⟨cf, kf, fi, f, a, cell, h1, h2, h3, h4, h5, h6, h7, -⟩ := h
  have he : (Term.static C n d).eval args s none [] s = some v := by
    simp [Term.eval, State.fieldNamed?, h1, h2, h4, h5, h6, h7]
  simp only [Cond.before, Cond.holds, Cond.value, he]
  cases v <;> simp_all [Value.isRef]
theorem vx_isRefq {C n d : String} {A : Nat → Prop} {s : State} {args : Array Value} (h : va_Zq C n d A s s.heap) : (Cond.isRef (.static C n d)).before args s = true := by
  rcases h with h | ⟨t, h⟩
  · exact vx_isRef h rfl
  · exact vx_isRef h rfl
/-- the same frame, seen from here: as if the method were called anew in this heap -/
theorem vx_rebase {T : State} (X : Stand p l e R s m args below meth c T locs cells slots) {R' : Room} (hf : R'.frames ≤ R.frames) (hl : R'.locals ≤ R.locals) (hc : cells + R'.cells ≤ R.cells) (hs : slots + R'.slots ≤ R.slots) :
    Stand p l e R' ((T.setVm s.vm).setFrames (.invoking m args :: below)) m args below meth c T [] 0 0 := by
  have htop : (T.setVm s.vm).topJava?.isSome := X.here.top
  have hF : ((T.setVm s.vm).setFrames (.invoking m args :: below)).frames = .invoking m args :: below := State.frames_setFrames _ (State.cur_lt_of_top htop)
  obtain ⟨g₀, hg0⟩ := Option.isSome_iff_exists.mp htop
  obtain ⟨r, hr⟩ := State.topJava?_eq_some.mp hg0
  have hl9 : e.platform.stackLimits (T.setVm s.vm).me = e.platform.stackLimits s.me := X.limits
  have hb9 : (T.setVm s.vm).me.stackBytes = s.me.stackBytes := X.bytes
  refine ⟨X.admits, X.cas, X.clock, hF, ?_, X.hears, X.method, X.code, X.here, X.tail, X.warmed, ?_, ?_, ?_⟩
  · have h := X.room
    have hU : ((T.setVm s.vm).setFrames (.invoking m args :: below)).localsInUse = s.localsInUse := by
      rw [State.localsInUse_invoking hF (meth := meth) (c := c) X.method X.code, State.localsInUse_invoking X.frames X.method X.code]
    simp only [State.hasRoom, Bool.and_eq_true, decide_eq_true_eq] at h ⊢
    obtain ⟨⟨⟨⟨h1, h2, h3, h4, h5, h6⟩, h7⟩, h8⟩, h9⟩ := h
    rw [X.frames, List.length_cons] at h2 h3
    have q1 := X.heapSize
    have q2 := X.used
    simp only [hF, hU, List.length_cons, State.stackLimits_setFrames, State.stackBytes_setFrames, hl9, hb9]
    refine ⟨⟨⟨⟨by omega, by omega, by omega, by omega, by omega, h6⟩, ?_⟩, ?_⟩, X.book⟩
    · show T.heap.size + R'.cells ≤ e.platform.maxCells
      omega
    · show T.slotsUsed + R'.slots ≤ e.platform.maxSlots
      omega
  · rw [State.stackLimits_setFrames]; rfl
  · rw [State.stackBytes_setFrames]; rfl
  · refine ⟨?_, Nat.le_refl _, Nat.le_refl _, ?_, ?_, fun a c9 h9 => ⟨c9, h9, rfl, rfl, fun _ _ => rfl⟩⟩
    · obtain ⟨t, ht, -⟩ := State.frames_cons hr
      show T.setVm s.vm = { ((T.setVm s.vm).setFrames (.invoking m args :: below)).setFrames (T.setVm s.vm).frames with heap := T.heap, slotsUsed := T.slotsUsed }
      rw [State.setFrames_setFrames, State.setFrames_self ht]
      rfl
    · show T.slotsUsed = T.slotsUsed + ((T.heap.toList.drop T.heap.size).map (·.slots.size)).sum
      rw [List.drop_eq_nil_of_le (Nat.le_of_eq Array.length_toList)]
      rfl
    · show ((T.heap.toList.drop T.heap.size).map (·.slots.size)).sum ≤ 0
      rw [List.drop_eq_nil_of_le (Nat.le_of_eq Array.length_toList)]
      exact Nat.le_refl _
/-- 'throw new E()': new; dup; invokespecial; athrow -/
theorem vx_throw0 {cc : ByteArray} {pc : Nat} (hexec : p.tables.exec = Jvm.exec) (hb : c.code = cc) (hl : l.stackTraces = false) {own cls : String} {names : List String} {ik ic mc ms : Nat} {A : Nat → Prop}
    (hown : s.vm.findClass own = some m.cls) (hcls : Bundle.fit cls = true) (hnames : ∀ n ∈ names, Bundle.fit n = true)
    (hk : (Cond.classLink own ik cls).before args s = true) (hini : (Cond.initialized cls).before args s = true) (hat : ∀ w ∈ vx_at0 own ic cls names, w.before args s = true)
    (hgood : ∀ w ∈ Cond.classLink own ik cls :: Cond.initialized cls :: vx_at0 own ic cls names, vx_ot w = true)
    (hU : vx_Zq Bundle.tN "UNASSIGNED_STACK" Bundle.steD A s s.heap) (hN : vx_Zq Bundle.tN "SUPPRESSED_SENTINEL" Bundle.listD A s s.heap) (hS : va_S A s.heap H locs) (hsize : ls.size = c.maxLocals)
    (d0 : decode cc pc = .ok (.new ik, 3)) (d3 : decode cc (pc + 3) = .ok (.dup, 1)) (d4 : decode cc (pc + 4) = .ok (.invokespecial ic, 3)) (d7 : decode cc (pc + 7) = .ok (.athrow, 1))
    (hout : ∀ x ∈ c.exceptionTable.toList, covers x (pc + 7) = false)
    (hRframes : names.length + 3 < R.frames) (hRlocals : (rest.map fun v => v.category).sum + (13 * (names.length + 1) + 42) ≤ R.locals) (hRcells : cells + 1 ≤ R.cells) (hRslots : slots + 6 ≤ R.slots) (hlocks : meth.locks = false)
    (hx : ∀ t : State, s.vm.Alike t.vm → H.size ≤ t.heap.size → (∀ q : Nat, q < H.size → t.heap[q]? = H[q]?) → XC cls s t)
    (hf : ∀ z ∈ locs, free z.base) (hc : cells + 1 ≤ mc) (hs : slots + 6 ≤ ms) :
    W p l e R s m args below meth c H locs cells slots (vx_MQ below Qc XC args s mc ms free) (F0 m pc ls rest) := by
  intro T hT X
  have htr : e.platform.stackTraces = false := (show e.platform.stackTraces = l.stackTraces by rw [X.admits.platform]).trans hl
  have Y := vx_rebase X (R' := { frames := R.frames, locals := R.locals, cells := 1, slots := 6 }) (Nat.le_refl _) (Nat.le_refl _) hRcells hRslots
  obtain ⟨s', hA⟩ : ∃ z, z = (T.setVm s.vm).setFrames (.invoking m args :: below) := ⟨_, rfl⟩
  rw [← hA] at Y
  have hvm : s'.vm = s.vm := by rw [hA]; rfl
  have hhp : s'.heap = H := by rw [hA]; exact hT
  have hW0 : s.WarmedH s'.vm := by rw [hvm]; exact State.WarmedH.refl s
  have hat' : ∀ w ∈ vx_at0 own ic cls names, w.before args s' = true := fun w hw => vx_ot_at hW0 hvm.symm (hgood w (List.mem_cons_of_mem _ (List.mem_cons_of_mem _ hw))) (hat w hw)
  have hk' : (Cond.classLink own ik cls).before args s' = true := vx_ot_at hW0 hvm.symm (hgood _ List.mem_cons_self) hk
  have hini' : (Cond.initialized cls).before args s' = true := vx_ot_at hW0 hvm.symm (hgood _ (List.mem_cons_of_mem _ List.mem_cons_self)) hini
  have hU' : vx_Zq Bundle.tN "UNASSIGNED_STACK" Bundle.steD A s' s'.heap := by rw [hhp]; exact vx_Zq.moved hW0.alike (hU.kept hS.2.1)
  have hN' : vx_Zq Bundle.tN "SUPPRESSED_SENTINEL" Bundle.listD A s' s'.heap := by rw [hhp]; exact vx_Zq.moved hW0.alike (hN.kept hS.2.1)
  have h : ∀ w ∈ Bundle.ownAtoms0 own ic cls names, w.before args s' = true := vx_own hat' (vx_isRefq hU'.1) (vx_isRefq hN'.1) hU'.2.word hN'.2.word
  have hown' : s'.vm.findClass own = some m.cls := by rw [hvm]; exact hown
  have hins : (Cond.instantiable cls 6).before args s' = true := h _ (by simp [Bundle.ownAtoms0])
  obtain ⟨vm₁, cX, kX, hfX, hkX, -, -, X₁, st1⟩ := Y.newCold hexec (own := own) (C := cls) (index := ik) (n := 6) hown' hk' hins hini'
    (g := F0 m pc ls rest) rfl (by rw [hb]; exact d0) (Nat.le_refl _) (Nat.le_refl _)
  generalize hT1 : (T.setVm vm₁).pushCell { cls := cX, slots := kX.instanceTypes.map defaultValue, vm := .none } = T1 at X₁ st1
  have hcat : (Value.ref T.heap.size).category = 1 := rfl
  have hcellA : T1.heap[T.heap.size]? = some (freshCell cX kX) := by rw [← hT1]; exact State.heap_pushCell_size _ _
  have d3' : decode c.code (pc + 3) = .ok (.dup, 1) := by rw [hb]; exact d3
  obtain ⟨U, hsteps, hrun, hend, hW, hsame, ce, hce, hO⟩ := X₁.ctorThrow0 hexec htr (own := own) (cls := cls) (names := names) (ic := ic) hown' hcls hnames h (fun x hx => nomatch hx) hfX hkX hcellA (by rw [hhp, hT]; exact Nat.le_refl _)
    (g := { method := m, pc := pc + 4, locals := ls, stack := .ref T.heap.size :: .ref T.heap.size :: rest, locked := none }) rfl hsize rfl rfl (rest := rest) rfl
    (by rw [hb]; exact d4) (by rw [hb]; exact d7) hout hRframes (by simp only [List.map_cons, List.sum_cons, hcat]; omega) hlocks
  obtain ⟨f1, f2⟩ := vx_frame hsame
  rw [hhp] at f1 f2
  have hWs : s.WarmedH U.vm := State.WarmedH.trans hW0 hW
  have hcl : s.vm.findClass cls = some ce.cls := by
    have h9 := hO.cls
    rw [hvm] at h9
    exact h9
  have hall : s.sameButNew ({ U with vm := s.vm } : State) locs mc ms := by
    subst hA
    obtain ⟨e1, e2⟩ := hsame
    rw [State.setFrames_setFrames] at e1
    have h2 : (T.setVm s.vm).sameButNew ({ U with vm := s.vm } : State) [] (0 + 1) (0 + 6) := ⟨e1, e2⟩
    have h3 := X.same.trans h2
    rw [List.append_nil] at h3
    exact h3.mono hc hs
  refine ⟨U, ?_, .threw T.heap.size, hrun, hend, Or.inr ⟨T.heap.size, rfl, cls, ce, locs, hx U hWs.alike f1 (fun q hq => f2 q hq (fun z hz => nomatch hz)), hce, hO.vm, hcl, hWs, hall, hf⟩⟩
  refine st1 _ ?_
  show Steps p.tables e below (T1.setTop { method := m, pc := pc + 3, locals := ls, stack := .ref T.heap.size :: rest, locked := none }) _
  jvm_step X₁.here [X₁.here.top, hexec, d3', Value.category]
  exact hsteps
/-- 'throw new E("text")': new; dup; ldc; invokespecial; athrow -/
theorem vx_throwS {cc : ByteArray} {pc : Nat} (hexec : p.tables.exec = Jvm.exec) (hb : c.code = cc) (hl : l.stackTraces = false) {own cls text : String} {names : List String} {ik is ic mc ms sa : Nat} {A : Nat → Prop}
    (hown : s.vm.findClass own = some m.cls) (hcls : Bundle.fit cls = true) (hnames : ∀ n ∈ names, Bundle.fit n = true)
    (hk : (Cond.classLink own ik cls).before args s = true) (hini : (Cond.initialized cls).before args s = true) (hstr : vk_R own is text sa s) (hat : ∀ w ∈ vx_atS own ic cls names, w.before args s = true)
    (hgood : ∀ w ∈ Cond.classLink own ik cls :: Cond.initialized cls :: vx_atS own ic cls names, vx_ot w = true)
    (hU : vx_Zq Bundle.tN "UNASSIGNED_STACK" Bundle.steD A s s.heap) (hN : vx_Zq Bundle.tN "SUPPRESSED_SENTINEL" Bundle.listD A s s.heap) (hS : va_S A s.heap H locs) (hsize : ls.size = c.maxLocals)
    (d0 : decode cc pc = .ok (.new ik, 3)) (d3 : decode cc (pc + 3) = .ok (.dup, 1)) (d4 : decode cc (pc + 4) = .ok (.ldc is, 2)) (d6 : decode cc (pc + 6) = .ok (.invokespecial ic, 3)) (d9 : decode cc (pc + 9) = .ok (.athrow, 1))
    (hout : ∀ x ∈ c.exceptionTable.toList, covers x (pc + 9) = false)
    (hRframes : names.length + 3 < R.frames) (hRlocals : (rest.map fun v => v.category).sum + (13 * (names.length + 1) + 43) ≤ R.locals) (hRcells : cells + 1 ≤ R.cells) (hRslots : slots + 6 ≤ R.slots) (hlocks : meth.locks = false)
    (hx : ∀ t : State, s.vm.Alike t.vm → H.size ≤ t.heap.size → (∀ q : Nat, q < H.size → t.heap[q]? = H[q]?) → XC cls s t)
    (hf : ∀ z ∈ locs, free z.base) (hc : cells + 1 ≤ mc) (hs : slots + 6 ≤ ms) :
    W p l e R s m args below meth c H locs cells slots (vx_MQ below Qc XC args s mc ms free) (F0 m pc ls rest) := by
  intro T hT X
  have htr : e.platform.stackTraces = false := (show e.platform.stackTraces = l.stackTraces by rw [X.admits.platform]).trans hl
  have Y := vx_rebase X (R' := { frames := R.frames, locals := R.locals, cells := 1, slots := 6 }) (Nat.le_refl _) (Nat.le_refl _) hRcells hRslots
  obtain ⟨s', hA⟩ : ∃ z, z = (T.setVm s.vm).setFrames (.invoking m args :: below) := ⟨_, rfl⟩
  rw [← hA] at Y
  have hvm : s'.vm = s.vm := by rw [hA]; rfl
  have hhp : s'.heap = H := by rw [hA]; exact hT
  have hW0 : s.WarmedH s'.vm := by rw [hvm]; exact State.WarmedH.refl s
  have hat' : ∀ w ∈ vx_atS own ic cls names, w.before args s' = true := fun w hw => vx_ot_at hW0 hvm.symm (hgood w (List.mem_cons_of_mem _ (List.mem_cons_of_mem _ hw))) (hat w hw)
  have hk' : (Cond.classLink own ik cls).before args s' = true := vx_ot_at hW0 hvm.symm (hgood _ List.mem_cons_self) hk
  have hini' : (Cond.initialized cls).before args s' = true := vx_ot_at hW0 hvm.symm (hgood _ (List.mem_cons_of_mem _ List.mem_cons_self)) hini
  have hU' : vx_Zq Bundle.tN "UNASSIGNED_STACK" Bundle.steD A s' s'.heap := by rw [hhp]; exact vx_Zq.moved hW0.alike (hU.kept hS.2.1)
  have hN' : vx_Zq Bundle.tN "SUPPRESSED_SENTINEL" Bundle.listD A s' s'.heap := by rw [hhp]; exact vx_Zq.moved hW0.alike (hN.kept hS.2.1)
  have h : ∀ w ∈ Bundle.ownAtoms own ic cls names, w.before args s' = true := vx_own hat' (vx_isRefq hU'.1) (vx_isRefq hN'.1) hU'.2.word hN'.2.word
  have hown' : s'.vm.findClass own = some m.cls := by rw [hvm]; exact hown
  have hins : (Cond.instantiable cls 6).before args s' = true := h _ (by simp [Bundle.ownAtoms])
  obtain ⟨vm₁, cX, kX, hfX, hkX, -, -, X₁, st1⟩ := Y.newCold hexec (own := own) (C := cls) (index := ik) (n := 6) hown' hk' hins hini'
    (g := F0 m pc ls rest) rfl (by rw [hb]; exact d0) (Nat.le_refl _) (Nat.le_refl _)
  generalize hT1 : (T.setVm vm₁).pushCell { cls := cX, slots := kX.instanceTypes.map defaultValue, vm := .none } = T1 at X₁ st1
  have hcat : (Value.ref T.heap.size).category = 1 := rfl
  have hcellA : T1.heap[T.heap.size]? = some (freshCell cX kX) := by rw [← hT1]; exact State.heap_pushCell_size _ _
  have d3' : decode c.code (pc + 3) = .ok (.dup, 1) := by rw [hb]; exact d3
  have d4' : decode c.code (pc + 4) = .ok (.ldc is, 2) := by rw [hb]; exact d4
  have hstr' : vk_R own is text sa s' := vk_R.warm hW0 hstr
  obtain ⟨U, hsteps, hrun, hend, hW, hsame, ce, hce, hO⟩ := X₁.ctorThrowS hexec htr (own := own) (cls := cls) (names := names) (ic := ic) hown' hcls hnames h (fun x hx => nomatch hx) hfX hkX hcellA (by rw [hhp, hT]; exact Nat.le_refl _) (msg := .ref sa) rfl
    (g := { method := m, pc := pc + 6, locals := ls, stack := .ref sa :: .ref T.heap.size :: .ref T.heap.size :: rest, locked := none }) rfl hsize rfl rfl (rest := rest) rfl
    (by rw [hb]; exact d6) (by rw [hb]; exact d9) hout hRframes (by simp only [List.map_cons, List.sum_cons, hcat]; omega) hlocks
  obtain ⟨f1, f2⟩ := vx_frame hsame
  rw [hhp] at f1 f2
  have hWs : s.WarmedH U.vm := State.WarmedH.trans hW0 hW
  have hcl : s.vm.findClass cls = some ce.cls := by
    have h9 := hO.cls
    rw [hvm] at h9
    exact h9
  have hall : s.sameButNew ({ U with vm := s.vm } : State) locs mc ms := by
    subst hA
    obtain ⟨e1, e2⟩ := hsame
    rw [State.setFrames_setFrames] at e1
    have h2 : (T.setVm s.vm).sameButNew ({ U with vm := s.vm } : State) [] (0 + 1) (0 + 6) := ⟨e1, e2⟩
    have h3 := X.same.trans h2
    rw [List.append_nil] at h3
    exact h3.mono hc hs
  refine ⟨U, ?_, .threw T.heap.size, hrun, hend, Or.inr ⟨T.heap.size, rfl, cls, ce, locs, hx U hWs.alike f1 (fun q hq => f2 q hq (fun z hz => nomatch hz)), hce, hO.vm, hcl, hWs, hall, hf⟩⟩
  refine st1 _ ?_
  show Steps p.tables e below (T1.setTop { method := m, pc := pc + 3, locals := ls, stack := .ref T.heap.size :: rest, locked := none }) _
  jvm_step X₁.here [X₁.here.top, hexec, d3', Value.category]
  exact X₁.ldcString hexec (own := own) (text := text) (index := is) (a := sa) hown' hstr'.1 hstr'.2
    (g := { method := m, pc := pc + 4, locals := ls, stack := .ref T.heap.size :: .ref T.heap.size :: rest, locked := none }) rfl d4' _ hsteps
/-- 'throw new E("text")', the text by a wide index -/
theorem vx_throwSW {cc : ByteArray} {pc : Nat} (hexec : p.tables.exec = Jvm.exec) (hb : c.code = cc) (hl : l.stackTraces = false) {own cls text : String} {names : List String} {ik is ic mc ms sa : Nat} {A : Nat → Prop}
    (hown : s.vm.findClass own = some m.cls) (hcls : Bundle.fit cls = true) (hnames : ∀ n ∈ names, Bundle.fit n = true)
    (hk : (Cond.classLink own ik cls).before args s = true) (hini : (Cond.initialized cls).before args s = true) (hstr : vk_R own is text sa s) (hat : ∀ w ∈ vx_atS own ic cls names, w.before args s = true)
    (hgood : ∀ w ∈ Cond.classLink own ik cls :: Cond.initialized cls :: vx_atS own ic cls names, vx_ot w = true)
    (hU : vx_Zq Bundle.tN "UNASSIGNED_STACK" Bundle.steD A s s.heap) (hN : vx_Zq Bundle.tN "SUPPRESSED_SENTINEL" Bundle.listD A s s.heap) (hS : va_S A s.heap H locs) (hsize : ls.size = c.maxLocals)
    (d0 : decode cc pc = .ok (.new ik, 3)) (d3 : decode cc (pc + 3) = .ok (.dup, 1)) (d4 : decode cc (pc + 4) = .ok (.ldc_w is, 3)) (d7 : decode cc (pc + 7) = .ok (.invokespecial ic, 3)) (d10 : decode cc (pc + 10) = .ok (.athrow, 1))
    (hout : ∀ x ∈ c.exceptionTable.toList, covers x (pc + 10) = false)
    (hRframes : names.length + 3 < R.frames) (hRlocals : (rest.map fun v => v.category).sum + (13 * (names.length + 1) + 43) ≤ R.locals) (hRcells : cells + 1 ≤ R.cells) (hRslots : slots + 6 ≤ R.slots) (hlocks : meth.locks = false)
    (hx : ∀ t : State, s.vm.Alike t.vm → H.size ≤ t.heap.size → (∀ q : Nat, q < H.size → t.heap[q]? = H[q]?) → XC cls s t)
    (hf : ∀ z ∈ locs, free z.base) (hc : cells + 1 ≤ mc) (hs : slots + 6 ≤ ms) :
    W p l e R s m args below meth c H locs cells slots (vx_MQ below Qc XC args s mc ms free) (F0 m pc ls rest) := by
  intro T hT X
  have htr : e.platform.stackTraces = false := (show e.platform.stackTraces = l.stackTraces by rw [X.admits.platform]).trans hl
  have Y := vx_rebase X (R' := { frames := R.frames, locals := R.locals, cells := 1, slots := 6 }) (Nat.le_refl _) (Nat.le_refl _) hRcells hRslots
  obtain ⟨s', hA⟩ : ∃ z, z = (T.setVm s.vm).setFrames (.invoking m args :: below) := ⟨_, rfl⟩
  rw [← hA] at Y
  have hvm : s'.vm = s.vm := by rw [hA]; rfl
  have hhp : s'.heap = H := by rw [hA]; exact hT
  have hW0 : s.WarmedH s'.vm := by rw [hvm]; exact State.WarmedH.refl s
  have hat' : ∀ w ∈ vx_atS own ic cls names, w.before args s' = true := fun w hw => vx_ot_at hW0 hvm.symm (hgood w (List.mem_cons_of_mem _ (List.mem_cons_of_mem _ hw))) (hat w hw)
  have hk' : (Cond.classLink own ik cls).before args s' = true := vx_ot_at hW0 hvm.symm (hgood _ List.mem_cons_self) hk
  have hini' : (Cond.initialized cls).before args s' = true := vx_ot_at hW0 hvm.symm (hgood _ (List.mem_cons_of_mem _ List.mem_cons_self)) hini
  have hU' : vx_Zq Bundle.tN "UNASSIGNED_STACK" Bundle.steD A s' s'.heap := by rw [hhp]; exact vx_Zq.moved hW0.alike (hU.kept hS.2.1)
  have hN' : vx_Zq Bundle.tN "SUPPRESSED_SENTINEL" Bundle.listD A s' s'.heap := by rw [hhp]; exact vx_Zq.moved hW0.alike (hN.kept hS.2.1)
  have h : ∀ w ∈ Bundle.ownAtoms own ic cls names, w.before args s' = true := vx_own hat' (vx_isRefq hU'.1) (vx_isRefq hN'.1) hU'.2.word hN'.2.word
  have hown' : s'.vm.findClass own = some m.cls := by rw [hvm]; exact hown
  have hins : (Cond.instantiable cls 6).before args s' = true := h _ (by simp [Bundle.ownAtoms])
  obtain ⟨vm₁, cX, kX, hfX, hkX, -, -, X₁, st1⟩ := Y.newCold hexec (own := own) (C := cls) (index := ik) (n := 6) hown' hk' hins hini'
    (g := F0 m pc ls rest) rfl (by rw [hb]; exact d0) (Nat.le_refl _) (Nat.le_refl _)
  generalize hT1 : (T.setVm vm₁).pushCell { cls := cX, slots := kX.instanceTypes.map defaultValue, vm := .none } = T1 at X₁ st1
  have hcat : (Value.ref T.heap.size).category = 1 := rfl
  have hcellA : T1.heap[T.heap.size]? = some (freshCell cX kX) := by rw [← hT1]; exact State.heap_pushCell_size _ _
  have d3' : decode c.code (pc + 3) = .ok (.dup, 1) := by rw [hb]; exact d3
  have d4' : decode c.code (pc + 4) = .ok (.ldc_w is, 3) := by rw [hb]; exact d4
  have hstr' : vk_R own is text sa s' := vk_R.warm hW0 hstr
  obtain ⟨U, hsteps, hrun, hend, hW, hsame, ce, hce, hO⟩ := X₁.ctorThrowS hexec htr (own := own) (cls := cls) (names := names) (ic := ic) hown' hcls hnames h (fun x hx => nomatch hx) hfX hkX hcellA (by rw [hhp, hT]; exact Nat.le_refl _) (msg := .ref sa) rfl
    (g := { method := m, pc := pc + 7, locals := ls, stack := .ref sa :: .ref T.heap.size :: .ref T.heap.size :: rest, locked := none }) rfl hsize rfl rfl (rest := rest) rfl
    (by rw [hb]; exact d7) (by rw [hb]; exact d10) hout hRframes (by simp only [List.map_cons, List.sum_cons, hcat]; omega) hlocks
  obtain ⟨f1, f2⟩ := vx_frame hsame
  rw [hhp] at f1 f2
  have hWs : s.WarmedH U.vm := State.WarmedH.trans hW0 hW
  have hcl : s.vm.findClass cls = some ce.cls := by
    have h9 := hO.cls
    rw [hvm] at h9
    exact h9
  have hall : s.sameButNew ({ U with vm := s.vm } : State) locs mc ms := by
    subst hA
    obtain ⟨e1, e2⟩ := hsame
    rw [State.setFrames_setFrames] at e1
    have h2 : (T.setVm s.vm).sameButNew ({ U with vm := s.vm } : State) [] (0 + 1) (0 + 6) := ⟨e1, e2⟩
    have h3 := X.same.trans h2
    rw [List.append_nil] at h3
    exact h3.mono hc hs
  refine ⟨U, ?_, .threw T.heap.size, hrun, hend, Or.inr ⟨T.heap.size, rfl, cls, ce, locs, hx U hWs.alike f1 (fun q hq => f2 q hq (fun z hz => nomatch hz)), hce, hO.vm, hcl, hWs, hall, hf⟩⟩
  refine st1 _ ?_
  show Steps p.tables e below (T1.setTop { method := m, pc := pc + 3, locals := ls, stack := .ref T.heap.size :: rest, locked := none }) _
  jvm_step X₁.here [X₁.here.top, hexec, d3', Value.category]
  exact X₁.ldcStringW hexec (own := own) (text := text) (index := is) (a := sa) hown' hstr'.1 hstr'.2
    (g := { method := m, pc := pc + 4, locals := ls, stack := .ref T.heap.size :: .ref T.heap.size :: rest, locked := none }) rfl d4' _ hsteps
end Ends
section Bodies
variable {l : Launch}
theorem vx_ofW {y : MethodName} {ws ws' : List Cond} {rm : Room} {Pc : Array Value → State → Prop} {Qc : Array Value → State → Outcome → State → Prop} {XC : String → State → State → Prop} {mc ms : Nat} {free : Addr → Prop} {cc : ByteArray} {maxL : Nat} {ret : Option FieldType}
    (hy : plainName y.cls = true) (hw : ws = Cond.code y cc maxL ret :: ws')
    (body : ∀ p e s m args below meth c s₁, BodyLoose p l y (headSpec ws rm) cc maxL ret e s m args below meth c s₁ → c.maxLocals = maxL → (∀ x ∈ c.exceptionTable.toList, False) → Pc args s →
      W p l e (headSpec ws rm).room s m args below meth c s.heap [] 0 0 (vx_MQ below Qc XC args s mc ms free) (entryFrame m args maxL)) : vx_Met l y ws rm Pc Qc XC mc ms free := by
  refine MetFree.of_bodyS (code := cc) (maxLocals := maxL) (ret := ret) hy ?_ ?_
  · intro args s m h hn
    obtain ⟨meth, c, h1, h2, h3, h4, h5, h6, -, -⟩ := Cond.code_spec hn (atoms_spec (ws := ws) h _ (by rw [hw]; exact List.mem_cons_self))
    exact ⟨meth, c, h1, h2, h3, h4, h5, h6⟩
  · intro p e s m args below meth c s₁ B hml hP _
    have hh0 : s₁.heap = s.heap := by rw [B.state]; rfl
    have ht : ∀ x ∈ c.exceptionTable.toList, False := by
      obtain ⟨meth9, c9, h1, h2, -, -, -, -, h7, -⟩ := Cond.code_spec B.named (atoms_spec (ws := ws) B.pre _ (by rw [hw]; exact List.mem_cons_self))
      cases Option.some.inj (h1.symm.trans B.method)
      cases Option.some.inj (h2.symm.trans (Stand.of_body B).code)
      intro x hx
      rw [Array.isEmpty_iff.mp h7] at hx
      cases hx
    obtain ⟨t, a1, o, b1, b2, b3⟩ := body p e s m args below meth c s₁ B hml ht hP s₁ hh0 (Stand.of_body B)
    exact ⟨t, o, a1, b1, b2, b3⟩
/-- the table of a body with handlers -/
theorem vx_table {p : Program} {x y : MethodName} {S : Spec} {cc bytes : ByteArray} {maxL maxL' : Nat} {ret ret' : Option FieldType} {e : Env} {s s₁ : State} {m : MethodId} {args : Array Value} {below : List Frame} {meth : Method} {c : Code} {hh : List (Nat × Nat × Nat × Nat)}
    (B : BodyLoose p l y S cc maxL ret e s m args below meth c s₁) (h : (Cond.codeWith y bytes maxL' ret' hh).before args s = true) : c.exceptionTable.toList = tableOf hh := by
  obtain ⟨m9, meth9, c9, hn9, h1, h2, -, -, h6, -⟩ := Cond.codeWith_spec h
  cases Option.some.inj (hn9.symm.trans B.named)
  cases Option.some.inj (h1.symm.trans B.method)
  cases Option.some.inj (h2.symm.trans (Stand.of_body B).code)
  rw [← h6, table_eq]
end Bodies
end VXA
/-! ===== END ===== -/
/-! ===== BEGIN a static call of a method with an exception table ===== -/
section VXS
variable {p : Program} {l : Launch} {e : Env} {R : Room} {s : State} {m : MethodId} {args : Array Value} {below : List Frame} {meth : Method} {c : Code} {T : State} {H : Heap} {locs : List Loc} {cells slots : Nat}
abbrev vx_CSW (R : Room) (s : State) (args : Array Value) (own : String) (index : Nat) (y : MethodName) (bytes : ByteArray) (maxL : Nat) (ret : Option FieldType) (hh : List (Nat × Nat × Nat × Nat)) (ws : List Cond) (rm : Room) (mc ms n : Nat) : Prop :=
  (rm.cells = mc ∧ rm.slots = ms ∧ rm.frames + 1 ≤ R.frames ∧ 8 + (maxL + 11) + rm.locals ≤ R.locals ∧ (∀ w ∈ ws, ∀ (a' : Array Value) (U : State), s.WarmedH U.vm → w.before a' U = true) ∧ Cond.codeWith y bytes maxL ret hh ∈ ws) ∧
  (Cond.codeWith y bytes maxL ret hh).before args s = true ∧ (Cond.initialized y.cls).before args s = true ∧ (y.cls ≠ "java/lang/invoke/MethodHandle" ∧ y.cls ≠ "java/lang/invoke/VarHandle") ∧
  (∀ sig, parseMethodDescriptor y.desc = some sig → n = sig.parameters.length) ∧ (Cond.methodLink own index y).before args s = true ∧ (Cond.static y).before args s = true
theorem vx_cwSW {own : String} {index maxL mc ms : Nat} {y : MethodName} {bytes : ByteArray} {ret : Option FieldType} {hh : List (Nat × Nat × Nat × Nat)} {Ts ws ws' : List Cond} {rm : Room} (n : Nat) (ht : ∀ w ∈ Ts, w.before args s = true) (hT : GoodIn Ts (va_wsS own index y ws)) (hw : ws = Cond.codeWith y bytes maxL ret hh :: ws') (hrc : rm.cells = mc) (hrs : rm.slots = ms)
    (hd : y.cls ≠ "java/lang/invoke/MethodHandle" ∧ y.cls ≠ "java/lang/invoke/VarHandle" ∧ (parseMethodDescriptor y.desc).map (fun d => d.parameters.length) = some n) (hR : rm.frames + 1 ≤ R.frames ∧ 8 + (maxL + 11) + rm.locals ≤ R.locals) :
    vx_CSW R s args own index y bytes maxL ret hh ws rm mc ms n := by
  have ok : ∀ w ∈ va_wsS own index y ws, w.before args s = true := fun w h => ht w (hT w h).1
  have hG : GoodIn Ts ws := fun w h => hT w (by unfold va_wsS; exact List.mem_append_right _ h)
  have hc : Cond.codeWith y bytes maxL ret hh ∈ ws := by rw [hw]; exact List.mem_cons_self
  refine ⟨⟨hrc, hrs, hR.1, hR.2, pay_in ht hG, hc⟩, ht _ (hG _ hc).1, ok _ (by simp [va_wsS]), ⟨hd.1, hd.2.1⟩, fun sig h => ?_, ok _ (by simp [va_wsS]), ok _ (by simp [va_wsS])⟩
  have h2 := hd.2.2
  rw [h] at h2
  exact (Option.some.inj h2).symm
theorem vx_callSW (X : Stand p l e R s m args below meth c T locs cells slots) (hexec : p.tables.exec = Jvm.exec) {own : String} {index : Nat} {y : MethodName} {bytes : ByteArray} {maxL : Nat} {ret : Option FieldType} {hh : List (Nat × Nat × Nat × Nat)}
    (hown : s.vm.findClass own = some m.cls) (hlink : (Cond.methodLink own index y).before args s = true) (hstat : (Cond.static y).before args s = true) (hinit : (Cond.initialized y.cls).before args s = true)
    (hcode : (Cond.codeWith y bytes maxL ret hh).before args s = true) (hy : y.cls ≠ "java/lang/invoke/MethodHandle" ∧ y.cls ≠ "java/lang/invoke/VarHandle")
    {W9 : Nat} {Pre : Pt → Array Value → Prop} {Post : Pt → Array Value → Option Value → Pt → Prop} (hK : Back l R p e below s args y 3 W9 Pre Post)
    {g : JFrame} (hg : g.method = m) (hsize : g.locals.size = c.maxLocals) {argsL rest : List Value} (hlen : ∀ sig, parseMethodDescriptor y.desc = some sig → argsL.length = sig.parameters.length)
    (hstack : g.stack = argsL.reverse ++ rest) (hW : 2 * g.monitorRoom + (rest.map fun v => v.category).sum ≤ W9) (hdg : decode c.code g.pc = .ok (.invokestatic index, 3))
    (hpre : ∀ vm₁, s.WarmedH vm₁ → Pre ⟨T.setVm vm₁, locs, cells, slots⟩ argsL.toArray) :
    ∃ (v : Option Value) (vm₁ : Vm) (B : Pt), s.WarmedH vm₁ ∧ Stand p l e R s m args below meth c B.U B.locs B.cells B.slots ∧ Post ⟨T.setVm vm₁, locs, cells, slots⟩ argsL.toArray v B ∧
      ∀ target, Steps p.tables e below (B.U.setTop { g with pc := g.pc + 3, stack := v.toList ++ rest }) target → Steps p.tables e below (T.setTop g) target := by
  obtain ⟨mk, methM, cM, hnamed, hmethM, -, -, -, -, -, -, hsigM⟩ := Cond.codeWith_spec hcode
  have hstatic : methM.isStatic = true := Cond.static_spec hnamed hmethM hstat
  obtain ⟨kP, hkP, -⟩ := className_of_methodNamed hnamed
  have hinitP : kP.init = .initialized := Cond.initialized_spec (findClass_of_methodNamed hnamed) hkP hinit
  obtain ⟨vm₁, X₁, hstep₁⟩ := X.invokestatic hexec hown hlink hnamed hmethM hstatic hkP hinitP hy (g := g) hg (argsL := argsL) (rest := rest) (hlen _ hsigM) hstack hdg
  obtain ⟨v, B, X', hpost, hsteps⟩ := hK m meth c ⟨T.setVm vm₁, locs, cells, slots⟩ { g with stack := rest } (.invokestatic index) mk argsL.toArray X₁ hg hsize hdg hW (X₁.named hnamed) (hpre vm₁ X₁.warmed)
  exact ⟨v, vm₁, B, X₁.warmed, X', hpost, fun target h => hstep₁ _ fun acts => by rw [doInvoke_state]; exact hsteps.trans h⟩
theorem vx_runSW {y : MethodName} {bytes cc : ByteArray} {maxL nL mc ms n index : Nat} {ret : Option FieldType} {hh : List (Nat × Nat × Nat × Nat)} {ws : List Cond} {rm : Room} {Pc : Array Value → State → Prop} {Qc : Array Value → State → Outcome → State → Prop} {free : Addr → Prop} {Ts : List Cond} {own : String} {As rest : List Value} {g : JFrame}
    (S : CallFix p m c cc nL s args Ts own) (hM : Met l y ws rm Pc Qc mc ms free) (cw : vx_CSW R s args own index y bytes maxL ret hh ws rm mc ms n) (hp : PreS s H Pc As)
    (hg : g.method = m) (hn : As.length = n) (hsize : g.locals.size = nL) (hstack : g.stack = As.reverse ++ rest) (hW : 2 * g.monitorRoom + (rest.map fun v => v.category).sum ≤ 8) (hdg : decode cc g.pc = .ok (.invokestatic index, 3)) (hf : cells + mc ≤ R.cells ∧ slots + ms ≤ R.slots) :
    va_Run p l e R s m args below meth c H locs cells slots mc ms g rest (Qc As.toArray) (free) := by
  obtain ⟨⟨hrc, hrs, hfr, hlo, hws, hcw⟩, hcode, hini, hy, hlen, hl, hstt⟩ := cw
  have hK : Back l R p e below s args y 3 8 (PreOf R mc ms Pc) (PostOf Qc mc ms free) := va_backW (hh := hh) (bytes := bytes) (maxL := maxL) (ret := ret) hM hp.1 hrc hrs hfr hlo hws hcw (fun a' U hW => word_at hW (Or.inl (by first | rfl | simp [Cond.onTables, Cond.keeps, Cond.steady])) hini)
  obtain ⟨hx, hb, hml, ho, -⟩ := S
  intro T hT X
  obtain ⟨v, vm₁, ⟨U', l2, c2, s2⟩, hW₁, X', ⟨g', mk, t, L, e1, e2, hq, h1, hL, h2, h3⟩, st⟩ := vx_callSW X hx (hh := hh) (bytes := bytes) (maxL := maxL) (ret := ret) ho hl hstt hini hcode hy hK hg (hsize.trans hml.symm) (argsL := As) (rest := rest) (fun sig h => hn.trans (hlen sig h)) hstack hW (by rw [hb]; exact hdg)
    (fun vm₁ hW₁ => ⟨hf.1, hf.2, hp.2 (T.setVm vm₁) hT hW₁⟩)
  dsimp only [Pt.U, Pt.locs, Pt.cells, Pt.slots] at X' e1 e2 h1 h2 h3 st
  subst h1; subst h2; subst h3
  exact ⟨v, (T.setVm vm₁).calling g' mk As.toArray, t, U', L, hT, X', hL, e1, e2, hq, st⟩
/-- not caught here, past rows that name other classes: it goes on to the caller -/
theorem vx_outP {p : Program} {l : Launch} {e : Env} {R : Room} {s : State} {m : MethodId} {args : Array Value} {below : List Frame} {meth : Method} {c : Code} {H : Heap} {locs : List Loc} {cells slots : Nat} {free : Addr → Prop} {ls : Array Slot} {rest : List Value} {Qc : Array Value → State → Outcome → State → Prop} {XC : String → State → State → Prop}
    {pc : Nat} {own E : String} {ce : Cell} {q : Addr} {mc ms : Nat} (hown : s.vm.findClass own = some m.cls) (hlocks : meth.locks = false)
    (hpass : ∀ z ∈ c.exceptionTable.toList, covers z pc = false ∨ (z.catchType ≠ 0 ∧ ∃ nm : String, (Cond.classLink own z.catchType nm).before args s = true ∧ va_Nc E nm s)) (hcell : H[q]? = some ce) (hv : ce.vm = .none) (hcl : s.vm.findClass E = some ce.cls)
    (hx : ∀ t : State, t.heap = H → s.vm.Alike t.vm → XC E s t) (hf : ∀ z ∈ locs, free z.base) (hc : cells ≤ mc) (hs : slots ≤ ms) :
    vx_W p l e R s m args below meth c H locs cells slots (vx_MQ below Qc XC args s mc ms free) (F0 m pc ls rest) q := by
  intro T hT X
  have hpl : e.platform.magicAccessors = ({} : Platform).magicAccessors := by rw [X.admits.platform]
  obtain ⟨vm', hW', X', st⟩ := X.outThrough hlocks q (g := F0 m pc ls rest) rfl rfl rfl (cell := ce) (by rw [hT]; exact hcell) (by rw [hv]; rfl)
    (by obtain ⟨k9, h9, -⟩ := Vm.findClass_spec hcl; exact ⟨k9, h9⟩) (fun z hz => by
      rcases hpass z hz with h | ⟨hz0, nm, hl1, hn1⟩
      · exact Or.inl h
      · obtain ⟨c6, hc6, hcl6⟩ := Cond.classLink_spec hown hl1 e.platform hpl
        obtain ⟨a8, b8, h1, h2, h3⟩ := hn1
        cases Option.some.inj (h1.symm.trans hcl)
        cases Option.some.inj (h2.symm.trans hc6)
        exact Or.inr ⟨hz0, _, hcl6, h3⟩)
  obtain ⟨g₀, hfr⟩ := X'.frames_eq
  have hcell9 : ((T.setVm vm').setFrames (.throwing q :: below)).heap[q]? = some ce := by
    show T.heap[q]? = some ce
    rw [hT]; exact hcell
  have hend : Ended ((T.setVm vm').setFrames (.throwing q :: below)) below (.threw q) := State.frames_setFrames _ (State.cur_lt_of_frames hfr)
  refine ⟨(T.setVm vm').setFrames (.throwing q :: below), ?_, .threw q, X'.here.running, hend, Or.inr ⟨q, rfl, E, ce, locs, hx _ hT (X'.ends _).1.alike, hcell9, hv, hcl, (X'.ends _).1, (X'.ends _).2.mono hc hs, hf⟩⟩
  rw [X.pushThrowing_eq]
  exact st
/-- a thing of a world lies in the heap -/
theorem vx_lt {D : va_G} {cl : List vw_C} {ws : va_W} {H1 : Heap} (h : va_P D cl ws H1) {k : Nat} {q : Nat × va_E} (hk : ws[k]? = some q) : q.1 < H1.size := (h k q hk).lt
end VXS
/-! ===== END ===== -/
/-! ===== BEGIN methods with a table of their own: called by a name, returning or throwing ===== -/
section VXH
/-! vx_backW, vx_callVX, vx_callSX, vx_callVW, vx_runVW, vx_runVX, vx_runSX, vx_ofWH follow the same proofs as their sisters above (Free/Laws.lean, Shelf42/LK1.lean); vx_outP calls Shelf42/NT130.lean (outThrough). -/
section
variable {l : Launch} {R : Room} {p : Program} {e : Env} {below : List Frame} {s : State} {sargs : Array Value} {y : MethodName} {len W9 : Nat}
theorem vx_backW {ws : List Cond} {rm : Room} {Pc : Array Value → State → Prop} {Qc : Array Value → State → Outcome → State → Prop} {XC : String → State → State → Prop} {mc ms : Nat} {free : Addr → Prop} {bytes : ByteArray} {maxL : Nat} {ret : Option FieldType} {hh : List (Nat × Nat × Nat × Nat)}
    (hM : vx_Met l y ws rm Pc Qc XC mc ms free) (hblind : FrameBlind Pc) (hrc : rm.cells = mc) (hrs : rm.slots = ms)
    (hframes : rm.frames + 1 ≤ R.frames) (hlocals : W9 + (maxL + 11) + rm.locals ≤ R.locals)
    (hws : ∀ w ∈ ws, ∀ a' U, s.WarmedH U.vm → w.before a' U = true) (hcode : Cond.codeWith y bytes maxL ret hh ∈ ws) (hinit : ∀ a' U, s.WarmedH U.vm → (Cond.initialized y.cls).before a' U = true) :
    vx_Back l R p e below s sargs y len W9 (PreOf R mc ms Pc) (PostOf Qc mc ms free) (vx_Post XC mc ms free) := by
  intro m meth c A g ig mk a X hg hsize hdg hW hn hp
  have h1 : (headSpec ws rm).pre.before a A.U = true := atoms_intro fun w hw => hws w hw _ _ X.warmed
  have h2 : (Cond.codeWith y bytes maxL ret hh).before a A.U = true := hws _ hcode _ _ X.warmed
  have h3 : (Cond.initialized y.cls).before a A.U = true := hinit _ _ X.warmed
  have h4 : A.cells + (headSpec ws rm).room.cells ≤ R.cells := by rw [show (headSpec ws rm).room.cells = mc from hrc]; exact hp.1
  have h5 : A.slots + (headSpec ws rm).room.slots ≤ R.slots := by rw [show (headSpec ws rm).room.slots = ms from hrs]; exact hp.2.1
  have hPc : Pc a (A.U.calling g mk a) := hblind _ _ _ _ hp.2.2
  obtain ⟨U, Ls, c0, s0⟩ := A
  dsimp only [Pt.U, Pt.locs, Pt.cells, Pt.slots] at h1 h2 h3 h4 h5 X hn hPc ⊢
  obtain ⟨m9, methY, cY, hn9, hmY, hcY, -, hlY, -⟩ := Cond.codeWith_spec h2
  cases Option.some.inj (hn9.symm.trans hn)
  obtain ⟨kY, hkY, -⟩ := className_of_methodNamed hn
  have hinitY : kY.init = .initialized := Cond.initialized_spec (findClass_of_methodNamed hn) hkY h3
  have h : At U g.method c below := by rw [hg]; exact X.here
  have hlocals9 : W9 + (maxL + 11) + (headSpec ws rm).room.locals ≤ R.locals := hlocals
  have happ : (headSpec ws rm).appliesLoose y e.platform (U.calling g mk a) = true :=
    Spec.appliesLoose_calling (g := g) h hdg hn hkY hinitY
      (X.room_calling (g := g) (R' := (headSpec ws rm).room) hsize hmY hcY hframes (by rw [hlY]; omega) h4 h5) h1
  obtain ⟨mid, hmid⟩ := h.above
  have hfr : (U.setTop g).frames = (.java g :: mid) ++ below := by rw [State.frames_setTop' g h.top, hmid]; rfl
  obtain ⟨o, s₂, hsteps, -, hend, hq⟩ := Steps.callFree hM p X.admits X.cas X.clock (acts := []) hfr happ hPc trivial
  have hq' : vx_Q Qc XC mc ms free a (U.calling g mk a) o s₂ := hq
  rw [State.frames_setTop' g h.top] at hend
  obtain ⟨g₀, hg0⟩ := Option.isSome_iff_exists.mp h.top
  obtain ⟨r, hr⟩ := State.topJava?_eq_some.mp hg0
  have hr' : (({ U with heap := s₂.heap, slotsUsed := s₂.slotsUsed } : State).setVm s₂.vm).frames = .java g₀ :: r := hr
  rcases hq' with ⟨hqc, L, hfe, hL⟩ | ⟨q, rfl, E, ce, L, hx, hce, hcv, hcl, hW₂, hsm, hL⟩
  · obtain ⟨⟨v, rfl⟩, hW₂, e2, q2, q3, q4, q5, q6⟩ := id hfe
    have e3 : s₂ = ({ (U.calling g mk a).setFrames s₂.frames with heap := s₂.heap, slotsUsed := s₂.slotsUsed } : State).setVm s₂.vm := by
      have : s₂ = ({ s₂ with vm := (U.calling g mk a).vm } : State).setVm s₂.vm := rfl
      rw [e2] at this
      exact this
    obtain ⟨c₂, i₂, len₂, hc₂, hd₂, hf₂⟩ := hend
    have hW' : U.WarmedH s₂.vm := hW₂
    have hcc : c₂ = c := by
      have h1 : s₂.code? g.method = U.code? g.method := by
        rw [State.code?_eq, State.code?_eq, hW'.alike.method?]
      exact Option.some.inj (hc₂.symm.trans (h1.trans h.code))
    subst hcc
    have hlen : len₂ = len := by rw [hdg] at hd₂; cases hd₂; rfl
    subst hlen
    have hs₂ : s₂ = (({ U with heap := s₂.heap, slotsUsed := s₂.slotsUsed } : State).setVm s₂.vm).setTop { g with pc := g.pc + len₂, stack := v.toList ++ g.stack } := by
      refine e3.trans ?_
      rw [hf₂, State.calling_eq h.top, State.setFrames_setFrames, State.setTop_of_frames _ hr', hr]
      rfl
    have hsame : U.sameButNew ({ U with heap := s₂.heap, slotsUsed := s₂.slotsUsed } : State) L mc ms := by
      refine ⟨?_, q2, q3, q4, q5, q6⟩
      obtain ⟨t, ht, -⟩ := State.frames_cons hr
      show ({ U with heap := s₂.heap, slotsUsed := s₂.slotsUsed } : State) = { U.setFrames U.frames with heap := s₂.heap, slotsUsed := s₂.slotsUsed }
      rw [State.setFrames_self ht]
    subst hg
    refine Or.inl ⟨v, ⟨(({ U with heap := s₂.heap, slotsUsed := s₂.slotsUsed } : State).setVm s₂.vm), Ls ++ L, c0 + mc, s0 + ms⟩,
      ⟨X.admits, X.cas, X.clock, X.frames, X.room, X.hears, X.method, X.code, (X.here.setHeapUsed s₂.heap s₂.slotsUsed).setVm hW'.alike, X.tail, State.WarmedH.trans X.warmed hW', X.limits, X.bytes, X.same.trans (hsame.setVm s.vm)⟩,
      ⟨g, mk, s₂, L, rfl, rfl, hqc, rfl, hL, rfl, rfl⟩, ?_⟩
    show Steps p.tables e below _ ((({ U with heap := s₂.heap, slotsUsed := s₂.slotsUsed } : State).setVm s₂.vm).setTop { g with pc := g.pc + len₂, stack := v.toList ++ g.stack })
    rw [← hs₂]
    exact hsteps
  · obtain ⟨e2, q2, q3, q4, q5, q6⟩ := id hsm
    have e3 : s₂ = ({ (U.calling g mk a).setFrames s₂.frames with heap := s₂.heap, slotsUsed := s₂.slotsUsed } : State).setVm s₂.vm := by
      have : s₂ = ({ s₂ with vm := (U.calling g mk a).vm } : State).setVm s₂.vm := rfl
      rw [e2] at this
      exact this
    have hf₂ : s₂.frames = .throwing q :: .java g :: U.frames.tail := hend
    have hW' : U.WarmedH s₂.vm := hW₂
    have hs₂ : s₂ = ((({ U with heap := s₂.heap, slotsUsed := s₂.slotsUsed } : State).setVm s₂.vm).setTop g).pushFrame (.throwing q) := by
      refine e3.trans ?_
      rw [hf₂, State.calling_eq h.top, State.setFrames_setFrames, State.pushFrame, State.frames_setTop _ hr', State.setTop_of_frames _ hr', State.setFrames_setFrames, hr]
      rfl
    have hsame : U.sameButNew ({ U with heap := s₂.heap, slotsUsed := s₂.slotsUsed } : State) L mc ms := by
      refine ⟨?_, q2, q3, q4, q5, q6⟩
      obtain ⟨t, ht, -⟩ := State.frames_cons hr
      show ({ U with heap := s₂.heap, slotsUsed := s₂.slotsUsed } : State) = { U.setFrames U.frames with heap := s₂.heap, slotsUsed := s₂.slotsUsed }
      rw [State.setFrames_self ht]
    subst hg
    refine Or.inr ⟨q, ⟨(({ U with heap := s₂.heap, slotsUsed := s₂.slotsUsed } : State).setVm s₂.vm), Ls ++ L, c0 + mc, s0 + ms⟩,
      ⟨X.admits, X.cas, X.clock, X.frames, X.room, X.hears, X.method, X.code, (X.here.setHeapUsed s₂.heap s₂.slotsUsed).setVm hW'.alike, X.tail, State.WarmedH.trans X.warmed hW', X.limits, X.bytes, X.same.trans (hsame.setVm s.vm)⟩,
      ⟨g, mk, s₂, L, E, ce, rfl, rfl, hx, hce, hcv, hcl, rfl, hL, rfl, rfl⟩, ?_⟩
    show Steps p.tables e below _ (((({ U with heap := s₂.heap, slotsUsed := s₂.slotsUsed } : State).setVm s₂.vm).setTop g).pushFrame (.throwing q))
    rw [← hs₂]
    exact hsteps
end
variable {p : Program} {l : Launch} {e : Env} {R : Room} {s : State} {m : MethodId} {args : Array Value} {below : List Frame} {meth : Method} {c : Code} {T : State} {H : Heap} {locs : List Loc} {cells slots : Nat}
theorem vx_callVX (X : Stand p l e R s m args below meth c T locs cells slots) (hexec : p.tables.exec = Jvm.exec) {own C : String} {index : Nat} {y : MethodName} {bytes : ByteArray} {maxL : Nat} {ret : Option FieldType} {hh : List (Nat × Nat × Nat × Nat)}
    (hown : s.vm.findClass own = some m.cls) (hlink : (Cond.methodLink own index y).before args s = true) (hinst : (Cond.instanceMethod y).before args s = true) (hsel : (Cond.selects C y y).before args s = true)
    (hcode : (Cond.codeWith y bytes maxL ret hh).before args s = true) (hy : y.cls ≠ "java/lang/invoke/MethodHandle" ∧ y.cls ≠ "java/lang/invoke/VarHandle")
    {W9 : Nat} {Pre : Pt → Array Value → Prop} {Post : Pt → Array Value → Option Value → Pt → Prop} {PostX : Pt → Array Value → Addr → Pt → Prop} (hK : vx_Back l R p e below s args y 3 W9 Pre Post PostX)
    {b : Addr} {cellB : Cell} (hcell : T.heap[b]? = some cellB) (hobj : cellB.vm.isStatics = false) (hcls : s.vm.findClass C = some cellB.cls)
    {g : JFrame} (hg : g.method = m) (hsize : g.locals.size = c.maxLocals) {argsL rest : List Value} (hlen : ∀ sig, parseMethodDescriptor y.desc = some sig → argsL.length = sig.parameters.length)
    (hstack : g.stack = argsL.reverse ++ .ref b :: rest) (hW : 2 * g.monitorRoom + (rest.map fun v => v.category).sum ≤ W9) (hdg : decode c.code g.pc = .ok (.invokevirtual index, 3))
    (hpre : ∀ vm₁, s.WarmedH vm₁ → Pre ⟨T.setVm vm₁, locs, cells, slots⟩ (Value.ref b :: argsL).toArray) :
    (∃ (v : Option Value) (vm₁ : Vm) (B : Pt), s.WarmedH vm₁ ∧ Stand p l e R s m args below meth c B.U B.locs B.cells B.slots ∧ Post ⟨T.setVm vm₁, locs, cells, slots⟩ (Value.ref b :: argsL).toArray v B ∧
      ∀ target, Steps p.tables e below (B.U.setTop { g with pc := g.pc + 3, stack := v.toList ++ rest }) target → Steps p.tables e below (T.setTop g) target) ∨
    (∃ (q : Addr) (vm₁ : Vm) (B : Pt), s.WarmedH vm₁ ∧ Stand p l e R s m args below meth c B.U B.locs B.cells B.slots ∧ PostX ⟨T.setVm vm₁, locs, cells, slots⟩ (Value.ref b :: argsL).toArray q B ∧
      Steps p.tables e below (T.setTop g) ((B.U.setTop { g with stack := rest }).pushFrame (.throwing q))) := by
  obtain ⟨mk, methM, hnamed, hmethM, hstM, habM⟩ := Cond.instanceMethod_spec hinst
  obtain ⟨m8, methM', cM, hn8, hmethM', -, -, -, -, -, -, hsigM⟩ := Cond.codeWith_spec hcode
  cases Option.some.inj (hn8.symm.trans hnamed)
  cases hmethM.symm.trans hmethM'
  obtain ⟨c2, r2, m2, q1, q2, q3, q4, kP, hkP, hkPi⟩ := Cond.selects_spec hsel
  cases hcls.symm.trans q1
  cases (State.methodFound?_of_named hnamed hy).symm.trans q2
  cases hnamed.symm.trans q3
  have hselP : selectMethod e.platform s.vm cellB.cls mk = .method mk := by rw [Launch.admits_selectMethod X.admits]; exact q4
  obtain ⟨vm₁, X₁, hstep₁⟩ := X.invokevirtual hexec hown hlink hnamed hmethM hstM hkP hkPi hy (a := b) (cell := cellB) hcell
    (fun z h => by rw [h] at hobj; cases hobj) hselP hmethM habM hkP hkPi (g := g) hg (argsL := argsL) (rest := rest) (hlen _ hsigM) hstack hdg
  rcases hK m meth c ⟨T.setVm vm₁, locs, cells, slots⟩ { g with stack := rest } (.invokevirtual index) mk (Value.ref b :: argsL).toArray X₁ hg hsize hdg hW (X₁.named hnamed) (hpre vm₁ X₁.warmed) with ⟨v, B, X', hpost, hsteps⟩ | ⟨q, B, X', hpost, hsteps⟩
  · exact Or.inl ⟨v, vm₁, B, X₁.warmed, X', hpost, fun target h => hstep₁ _ fun acts => by rw [doInvoke_state]; exact hsteps.trans h⟩
  · exact Or.inr ⟨q, vm₁, B, X₁.warmed, X', hpost, hstep₁ _ fun acts => by rw [doInvoke_state]; exact hsteps⟩
theorem vx_callSX (X : Stand p l e R s m args below meth c T locs cells slots) (hexec : p.tables.exec = Jvm.exec) {own : String} {index : Nat} {y : MethodName} {bytes : ByteArray} {maxL : Nat} {ret : Option FieldType} {hh : List (Nat × Nat × Nat × Nat)}
    (hown : s.vm.findClass own = some m.cls) (hlink : (Cond.methodLink own index y).before args s = true) (hstat : (Cond.static y).before args s = true) (hinit : (Cond.initialized y.cls).before args s = true)
    (hcode : (Cond.codeWith y bytes maxL ret hh).before args s = true) (hy : y.cls ≠ "java/lang/invoke/MethodHandle" ∧ y.cls ≠ "java/lang/invoke/VarHandle")
    {W9 : Nat} {Pre : Pt → Array Value → Prop} {Post : Pt → Array Value → Option Value → Pt → Prop} {PostX : Pt → Array Value → Addr → Pt → Prop} (hK : vx_Back l R p e below s args y 3 W9 Pre Post PostX)
    {g : JFrame} (hg : g.method = m) (hsize : g.locals.size = c.maxLocals) {argsL rest : List Value} (hlen : ∀ sig, parseMethodDescriptor y.desc = some sig → argsL.length = sig.parameters.length)
    (hstack : g.stack = argsL.reverse ++ rest) (hW : 2 * g.monitorRoom + (rest.map fun v => v.category).sum ≤ W9) (hdg : decode c.code g.pc = .ok (.invokestatic index, 3))
    (hpre : ∀ vm₁, s.WarmedH vm₁ → Pre ⟨T.setVm vm₁, locs, cells, slots⟩ argsL.toArray) :
    (∃ (v : Option Value) (vm₁ : Vm) (B : Pt), s.WarmedH vm₁ ∧ Stand p l e R s m args below meth c B.U B.locs B.cells B.slots ∧ Post ⟨T.setVm vm₁, locs, cells, slots⟩ argsL.toArray v B ∧
      ∀ target, Steps p.tables e below (B.U.setTop { g with pc := g.pc + 3, stack := v.toList ++ rest }) target → Steps p.tables e below (T.setTop g) target) ∨
    (∃ (q : Addr) (vm₁ : Vm) (B : Pt), s.WarmedH vm₁ ∧ Stand p l e R s m args below meth c B.U B.locs B.cells B.slots ∧ PostX ⟨T.setVm vm₁, locs, cells, slots⟩ argsL.toArray q B ∧
      Steps p.tables e below (T.setTop g) ((B.U.setTop { g with stack := rest }).pushFrame (.throwing q))) := by
  obtain ⟨mk, methM, cM, hnamed, hmethM, -, -, -, -, -, -, hsigM⟩ := Cond.codeWith_spec hcode
  have hstatic : methM.isStatic = true := Cond.static_spec hnamed hmethM hstat
  obtain ⟨kP, hkP, -⟩ := className_of_methodNamed hnamed
  have hinitP : kP.init = .initialized := Cond.initialized_spec (findClass_of_methodNamed hnamed) hkP hinit
  obtain ⟨vm₁, X₁, hstep₁⟩ := X.invokestatic hexec hown hlink hnamed hmethM hstatic hkP hinitP hy (g := g) hg (argsL := argsL) (rest := rest) (hlen _ hsigM) hstack hdg
  rcases hK m meth c ⟨T.setVm vm₁, locs, cells, slots⟩ { g with stack := rest } (.invokestatic index) mk argsL.toArray X₁ hg hsize hdg hW (X₁.named hnamed) (hpre vm₁ X₁.warmed) with ⟨v, B, X', hpost, hsteps⟩ | ⟨q, B, X', hpost, hsteps⟩
  · exact Or.inl ⟨v, vm₁, B, X₁.warmed, X', hpost, fun target h => hstep₁ _ fun acts => by rw [doInvoke_state]; exact hsteps.trans h⟩
  · exact Or.inr ⟨q, vm₁, B, X₁.warmed, X', hpost, hstep₁ _ fun acts => by rw [doInvoke_state]; exact hsteps⟩
theorem vx_callVW (X : Stand p l e R s m args below meth c T locs cells slots) (hexec : p.tables.exec = Jvm.exec) {own C : String} {index : Nat} {y : MethodName} {bytes : ByteArray} {maxL : Nat} {ret : Option FieldType} {hh : List (Nat × Nat × Nat × Nat)}
    (hown : s.vm.findClass own = some m.cls) (hlink : (Cond.methodLink own index y).before args s = true) (hinst : (Cond.instanceMethod y).before args s = true) (hsel : (Cond.selects C y y).before args s = true)
    (hcode : (Cond.codeWith y bytes maxL ret hh).before args s = true) (hy : y.cls ≠ "java/lang/invoke/MethodHandle" ∧ y.cls ≠ "java/lang/invoke/VarHandle")
    {W9 : Nat} {Pre : Pt → Array Value → Prop} {Post : Pt → Array Value → Option Value → Pt → Prop} (hK : Back l R p e below s args y 3 W9 Pre Post)
    {b : Addr} {cellB : Cell} (hcell : T.heap[b]? = some cellB) (hobj : cellB.vm.isStatics = false) (hcls : s.vm.findClass C = some cellB.cls)
    {g : JFrame} (hg : g.method = m) (hsize : g.locals.size = c.maxLocals) {argsL rest : List Value} (hlen : ∀ sig, parseMethodDescriptor y.desc = some sig → argsL.length = sig.parameters.length)
    (hstack : g.stack = argsL.reverse ++ .ref b :: rest) (hW : 2 * g.monitorRoom + (rest.map fun v => v.category).sum ≤ W9) (hdg : decode c.code g.pc = .ok (.invokevirtual index, 3))
    (hpre : ∀ vm₁, s.WarmedH vm₁ → Pre ⟨T.setVm vm₁, locs, cells, slots⟩ (Value.ref b :: argsL).toArray) :
    ∃ (v : Option Value) (vm₁ : Vm) (B : Pt), s.WarmedH vm₁ ∧ Stand p l e R s m args below meth c B.U B.locs B.cells B.slots ∧ Post ⟨T.setVm vm₁, locs, cells, slots⟩ (Value.ref b :: argsL).toArray v B ∧
      ∀ target, Steps p.tables e below (B.U.setTop { g with pc := g.pc + 3, stack := v.toList ++ rest }) target → Steps p.tables e below (T.setTop g) target := by
  obtain ⟨mk, methM, hnamed, hmethM, hstM, habM⟩ := Cond.instanceMethod_spec hinst
  obtain ⟨m8, methM', cM, hn8, hmethM', -, -, -, -, -, -, hsigM⟩ := Cond.codeWith_spec hcode
  cases Option.some.inj (hn8.symm.trans hnamed)
  cases hmethM.symm.trans hmethM'
  obtain ⟨c2, r2, m2, q1, q2, q3, q4, kP, hkP, hkPi⟩ := Cond.selects_spec hsel
  cases hcls.symm.trans q1
  cases (State.methodFound?_of_named hnamed hy).symm.trans q2
  cases hnamed.symm.trans q3
  have hselP : selectMethod e.platform s.vm cellB.cls mk = .method mk := by rw [Launch.admits_selectMethod X.admits]; exact q4
  obtain ⟨vm₁, X₁, hstep₁⟩ := X.invokevirtual hexec hown hlink hnamed hmethM hstM hkP hkPi hy (a := b) (cell := cellB) hcell
    (fun z h => by rw [h] at hobj; cases hobj) hselP hmethM habM hkP hkPi (g := g) hg (argsL := argsL) (rest := rest) (hlen _ hsigM) hstack hdg
  obtain ⟨v, B, X', hpost, hsteps⟩ := hK m meth c ⟨T.setVm vm₁, locs, cells, slots⟩ { g with stack := rest } (.invokevirtual index) mk (Value.ref b :: argsL).toArray X₁ hg hsize hdg hW (X₁.named hnamed) (hpre vm₁ X₁.warmed)
  exact ⟨v, vm₁, B, X₁.warmed, X', hpost, fun target h => hstep₁ _ fun acts => by rw [doInvoke_state]; exact hsteps.trans h⟩
abbrev vx_CVW (R : Room) (s : State) (args : Array Value) (own C : String) (index : Nat) (y : MethodName) (bytes : ByteArray) (maxL : Nat) (ret : Option FieldType) (hh : List (Nat × Nat × Nat × Nat)) (ws : List Cond) (rm : Room) (mc ms n : Nat) : Prop :=
  (rm.cells = mc ∧ rm.slots = ms ∧ rm.frames + 1 ≤ R.frames ∧ 8 + (maxL + 11) + rm.locals ≤ R.locals ∧ (∀ w ∈ ws, ∀ (a' : Array Value) (U : State), s.WarmedH U.vm → w.before a' U = true) ∧ Cond.codeWith y bytes maxL ret hh ∈ ws) ∧
  (Cond.codeWith y bytes maxL ret hh).before args s = true ∧ (Cond.initialized y.cls).before args s = true ∧ (y.cls ≠ "java/lang/invoke/MethodHandle" ∧ y.cls ≠ "java/lang/invoke/VarHandle") ∧
  (∀ sig, parseMethodDescriptor y.desc = some sig → n = sig.parameters.length) ∧ (Cond.methodLink own index y).before args s = true ∧ (Cond.instanceMethod y).before args s = true ∧ (Cond.selects C y y).before args s = true
theorem vx_cwVW {own C : String} {index maxL mc ms : Nat} {y : MethodName} {bytes : ByteArray} {ret : Option FieldType} {hh : List (Nat × Nat × Nat × Nat)} {Ts ws ws' : List Cond} {rm : Room} (n : Nat) (ht : ∀ w ∈ Ts, w.before args s = true) (hT : GoodIn Ts (wsV own index C y ws)) (hw : ws = Cond.codeWith y bytes maxL ret hh :: ws') (hrc : rm.cells = mc) (hrs : rm.slots = ms)
    (hd : y.cls = C ∧ y.cls ≠ "java/lang/invoke/MethodHandle" ∧ y.cls ≠ "java/lang/invoke/VarHandle" ∧ (parseMethodDescriptor y.desc).map (fun d => d.parameters.length) = some n) (hR : rm.frames + 1 ≤ R.frames ∧ 8 + (maxL + 11) + rm.locals ≤ R.locals) :
    vx_CVW R s args own C index y bytes maxL ret hh ws rm mc ms n := by
  obtain ⟨hC, hd⟩ := hd
  subst hC
  have ok : ∀ w ∈ wsV own index y.cls y ws, w.before args s = true := fun w h => ht w (hT w h).1
  have hG : GoodIn Ts ws := fun w h => hT w (by unfold wsV; exact List.mem_append_right _ h)
  have hc : Cond.codeWith y bytes maxL ret hh ∈ ws := by rw [hw]; exact List.mem_cons_self
  refine ⟨⟨hrc, hrs, hR.1, hR.2, pay_in ht hG, hc⟩, ht _ (hG _ hc).1, ok _ (by simp [wsV]), ⟨hd.1, hd.2.1⟩, fun sig h => ?_, ok _ (by simp [wsV]), ok _ (by simp [wsV]), ok _ (by simp [wsV])⟩
  have h2 := hd.2.2
  rw [h] at h2
  exact (Option.some.inj h2).symm
theorem vx_runVW {y : MethodName} {bytes cc : ByteArray} {maxL nL mc ms n index : Nat} {ret : Option FieldType} {hh : List (Nat × Nat × Nat × Nat)} {ws : List Cond} {rm : Room} {Pc : Array Value → State → Prop} {Qc : Array Value → State → Outcome → State → Prop} {free : Addr → Prop} {Ts : List Cond} {own C : String} {b : Addr} {As rest : List Value} {g : JFrame}
    (S : CallFix p m c cc nL s args Ts own) (hM : Met l y ws rm Pc Qc mc ms free) (cw : vx_CVW R s args own C index y bytes maxL ret hh ws rm mc ms n) (hp : PreV s H C b Pc As)
    (hg : g.method = m) (hn : As.length = n) (hsize : g.locals.size = nL) (hstack : g.stack = As.reverse ++ .ref b :: rest) (hW : 2 * g.monitorRoom + (rest.map fun v => v.category).sum ≤ 8) (hdg : decode cc g.pc = .ok (.invokevirtual index, 3)) (hf : cells + mc ≤ R.cells ∧ slots + ms ≤ R.slots) :
    va_Run p l e R s m args below meth c H locs cells slots mc ms g rest (Qc (Value.ref b :: As).toArray) free := by
  obtain ⟨⟨hrc, hrs, hfr, hlo, hws, hcw⟩, hcode, hini, hy, hlen, hl, hin, hse⟩ := cw
  have hK : Back l R p e below s args y 3 8 (PreOf R mc ms Pc) (PostOf Qc mc ms free) := va_backW (hh := hh) (bytes := bytes) (maxL := maxL) (ret := ret) hM hp.1 hrc hrs hfr hlo hws hcw (fun a' U hW => word_at hW (Or.inl (by first | rfl | simp [Cond.onTables, Cond.keeps, Cond.steady])) hini)
  obtain ⟨hx, hb, hml, ho, -⟩ := S
  obtain ⟨-, ⟨cellB, hcB, hoB, hclB⟩, hPc⟩ := hp
  intro T hT X
  obtain ⟨v, vm₁, ⟨U', l2, c2, s2⟩, hW₁, X', ⟨g', mk, t, L, e1, e2, hq, h1, hL, h2, h3⟩, st⟩ := vx_callVW X hx (C := C) (hh := hh) (bytes := bytes) (maxL := maxL) (ret := ret) ho hl hin hse hcode hy hK (by rw [hT]; exact hcB) hoB hclB hg (hsize.trans hml.symm) (argsL := As) (rest := rest) (fun sig h => hn.trans (hlen sig h)) hstack hW (by rw [hb]; exact hdg)
    (fun vm₁ hW₁ => ⟨hf.1, hf.2, hPc (T.setVm vm₁) hT hW₁⟩)
  dsimp only [Pt.U, Pt.locs, Pt.cells, Pt.slots] at X' e1 e2 h1 h2 h3 st
  subst h1; subst h2; subst h3
  exact ⟨v, (T.setVm vm₁).calling g' mk (Value.ref b :: As).toArray, t, U', L, hT, X', hL, e1, e2, hq, st⟩
section
variable {y : MethodName} {bytes cc : ByteArray} {maxL nL mc ms n index : Nat} {ret : Option FieldType} {ws : List Cond} {rm : Room} {Pc : Array Value → State → Prop} {Qc : Array Value → State → Outcome → State → Prop} {XC : String → State → State → Prop} {free : Addr → Prop} {Ts : List Cond} {own C : String} {b : Addr} {As rest : List Value} {g : JFrame}
theorem vx_runVX {hh : List (Nat × Nat × Nat × Nat)} (S : CallFix p m c cc nL s args Ts own) (hM : vx_Met l y ws rm Pc Qc XC mc ms free) (cw : vx_CVW R s args own C index y bytes maxL ret hh ws rm mc ms n) (hp : PreV s H C b Pc As)
    (hg : g.method = m) (hn : As.length = n) (hsize : g.locals.size = nL) (hstack : g.stack = As.reverse ++ .ref b :: rest) (hW : 2 * g.monitorRoom + (rest.map fun v => v.category).sum ≤ 8) (hdg : decode cc g.pc = .ok (.invokevirtual index, 3)) (hf : cells + mc ≤ R.cells ∧ slots + ms ≤ R.slots) :
    vx_Run p l e R s m args below meth c H locs cells slots mc ms g rest (Qc (Value.ref b :: As).toArray) XC free := by
  obtain ⟨⟨hrc, hrs, hfr, hlo, hws, hcw⟩, hcode, hini, hy, hlen, hl, hin, hse⟩ := cw
  have hK : vx_Back l R p e below s args y 3 8 (PreOf R mc ms Pc) (PostOf Qc mc ms free) (vx_Post XC mc ms free) := vx_backW (hh := hh) (bytes := bytes) (maxL := maxL) (ret := ret) hM hp.1 hrc hrs hfr hlo hws hcw (fun a' U hW => word_at hW (Or.inl (by first | rfl | simp [Cond.onTables, Cond.keeps, Cond.steady])) hini)
  obtain ⟨hx, hb, hml, ho, -⟩ := S
  obtain ⟨-, ⟨cellB, hcB, hoB, hclB⟩, hPc⟩ := hp
  intro T hT X
  rcases vx_callVX X hx (C := C) (hh := hh) (bytes := bytes) (maxL := maxL) (ret := ret) ho hl hin hse hcode hy hK (by rw [hT]; exact hcB) hoB hclB hg (hsize.trans hml.symm) (argsL := As) (rest := rest) (fun sig h => hn.trans (hlen sig h)) hstack hW (by rw [hb]; exact hdg)
    (fun vm₁ hW₁ => ⟨hf.1, hf.2, hPc (T.setVm vm₁) hT hW₁⟩) with ⟨v, vm₁, ⟨U', l2, c2, s2⟩, hW₁, X', ⟨g', mk, t, L, e1, e2, hq, h1, hL, h2, h3⟩, st⟩ | ⟨q, vm₁, ⟨U', l2, c2, s2⟩, hW₁, X', ⟨g', mk, t, L, E, ce, e1, e2, hq, hce, hcv, hcl, h1, hL, h2, h3⟩, st⟩
  · dsimp only [Pt.U, Pt.locs, Pt.cells, Pt.slots] at X' e1 e2 h1 h2 h3 st
    subst h1; subst h2; subst h3
    exact Or.inl ⟨v, (T.setVm vm₁).calling g' mk (Value.ref b :: As).toArray, t, U', L, hT, X', hL, e1, e2, hq, st⟩
  · dsimp only [Pt.U, Pt.locs, Pt.cells, Pt.slots] at X' e1 e2 h1 h2 h3 st hcl
    subst h1; subst h2; subst h3
    exact Or.inr ⟨q, (T.setVm vm₁).calling g' mk (Value.ref b :: As).toArray, t, U', L, E, ce, hT, X', hL, e1, e2, hq, hce, hcv, vx_cls hW₁ hcl, st⟩
theorem vx_runSX {hh : List (Nat × Nat × Nat × Nat)} (S : CallFix p m c cc nL s args Ts own) (hM : vx_Met l y ws rm Pc Qc XC mc ms free) (cw : vx_CSW R s args own index y bytes maxL ret hh ws rm mc ms n) (hp : PreS s H Pc As)
    (hg : g.method = m) (hn : As.length = n) (hsize : g.locals.size = nL) (hstack : g.stack = As.reverse ++ rest) (hW : 2 * g.monitorRoom + (rest.map fun v => v.category).sum ≤ 8) (hdg : decode cc g.pc = .ok (.invokestatic index, 3)) (hf : cells + mc ≤ R.cells ∧ slots + ms ≤ R.slots) :
    vx_Run p l e R s m args below meth c H locs cells slots mc ms g rest (Qc As.toArray) XC free := by
  obtain ⟨⟨hrc, hrs, hfr, hlo, hws, hcw⟩, hcode, hini, hy, hlen, hl, hstt⟩ := cw
  have hK : vx_Back l R p e below s args y 3 8 (PreOf R mc ms Pc) (PostOf Qc mc ms free) (vx_Post XC mc ms free) := vx_backW (hh := hh) (bytes := bytes) (maxL := maxL) (ret := ret) hM hp.1 hrc hrs hfr hlo hws hcw (fun a' U hW => word_at hW (Or.inl (by first | rfl | simp [Cond.onTables, Cond.keeps, Cond.steady])) hini)
  obtain ⟨hx, hb, hml, ho, -⟩ := S
  intro T hT X
  rcases vx_callSX X hx (hh := hh) (bytes := bytes) (maxL := maxL) (ret := ret) ho hl hstt hini hcode hy hK hg (hsize.trans hml.symm) (argsL := As) (rest := rest) (fun sig h => hn.trans (hlen sig h)) hstack hW (by rw [hb]; exact hdg)
    (fun vm₁ hW₁ => ⟨hf.1, hf.2, hp.2 (T.setVm vm₁) hT hW₁⟩) with ⟨v, vm₁, ⟨U', l2, c2, s2⟩, hW₁, X', ⟨g', mk, t, L, e1, e2, hq, h1, hL, h2, h3⟩, st⟩ | ⟨q, vm₁, ⟨U', l2, c2, s2⟩, hW₁, X', ⟨g', mk, t, L, E, ce, e1, e2, hq, hce, hcv, hcl, h1, hL, h2, h3⟩, st⟩
  · dsimp only [Pt.U, Pt.locs, Pt.cells, Pt.slots] at X' e1 e2 h1 h2 h3 st
    subst h1; subst h2; subst h3
    exact Or.inl ⟨v, (T.setVm vm₁).calling g' mk As.toArray, t, U', L, hT, X', hL, e1, e2, hq, st⟩
  · dsimp only [Pt.U, Pt.locs, Pt.cells, Pt.slots] at X' e1 e2 h1 h2 h3 st hcl
    subst h1; subst h2; subst h3
    exact Or.inr ⟨q, (T.setVm vm₁).calling g' mk As.toArray, t, U', L, E, ce, hT, X', hL, e1, e2, hq, hce, hcv, vx_cls hW₁ hcl, st⟩
end
end VXH
theorem vx_ofWH {l : Launch} {y : MethodName} {ws ws' : List Cond} {rm : Room} {Pc : Array Value → State → Prop} {Qc : Array Value → State → Outcome → State → Prop} {XC : String → State → State → Prop} {mc ms : Nat} {free : Addr → Prop} {cc : ByteArray} {maxL : Nat} {ret : Option FieldType} {hh : List (Nat × Nat × Nat × Nat)}
    (hy : plainName y.cls = true) (hw : ws = Cond.codeWith y cc maxL ret hh :: ws')
    (body : ∀ p e s m args below meth c s₁, BodyLoose p l y (headSpec ws rm) cc maxL ret e s m args below meth c s₁ → c.maxLocals = maxL → Pc args s →
      W p l e (headSpec ws rm).room s m args below meth c s.heap [] 0 0 (vx_MQ below Qc XC args s mc ms free) (entryFrame m args maxL)) : vx_Met l y ws rm Pc Qc XC mc ms free := by
  refine MetFree.of_bodyS (code := cc) (maxLocals := maxL) (ret := ret) hy ?_ ?_
  · intro args s m h hn
    obtain ⟨m9, meth, c, hn9, h1, h2, h3, h4, -, h5, h6, -⟩ := Cond.codeWith_spec (atoms_spec (ws := ws) h _ (by rw [hw]; exact List.mem_cons_self))
    cases hn.symm.trans hn9
    exact ⟨meth, c, h1, h2, h3, h4, h5, h6⟩
  · intro p e s m args below meth c s₁ B hml hP _
    have hh0 : s₁.heap = s.heap := by rw [B.state]; rfl
    obtain ⟨t, a1, o, b1, b2, b3⟩ := body p e s m args below meth c s₁ B hml hP s₁ hh0 (Stand.of_body B)
    exact ⟨t, o, a1, b1, b2, b3⟩
/-! ===== END ===== -/
/-! ===== BEGIN a private method of a nest mate that may throw (follows va_callVN, va_callSN, va_runVN, va_runSN) ===== -/
section
variable {p : Program} {l : Launch} {e : Env} {R : Room} {s : State} {m : MethodId} {args : Array Value} {below : List Frame} {meth : Method} {c : Code} {H : Heap} {locs : List Loc} {cells slots : Nat}
variable {T : State}
theorem vx_callVN (X : Stand p l e R s m args below meth c T locs cells slots) (hexec : p.tables.exec = Jvm.exec) {own C : String} {index : Nat} {host : String} {y : MethodName} {bytes : ByteArray} {maxL : Nat} {ret : Option FieldType}
    (hown : s.vm.findClass own = some m.cls) (hlink : (Cond.methodLinkNest own index y host).before args s = true) (hinst : (Cond.instanceMethod y).before args s = true) (hsel : (Cond.selects C y y).before args s = true)
    (hcode : (Cond.code y bytes maxL ret).before args s = true) (hy : y.cls ≠ "java/lang/invoke/MethodHandle" ∧ y.cls ≠ "java/lang/invoke/VarHandle")
    {W : Nat} {Pre : Pt → Array Value → Prop} {Post : Pt → Array Value → Option Value → Pt → Prop} {PostX : Pt → Array Value → Addr → Pt → Prop} (hK : vx_Back l R p e below s args y 3 W Pre Post PostX)
    {b : Addr} {cellB : Cell} (hcell : T.heap[b]? = some cellB) (hobj : cellB.vm.isStatics = false) (hcls : s.vm.findClass C = some cellB.cls)
    {g : JFrame} (hg : g.method = m) (hsize : g.locals.size = c.maxLocals) {argsL rest : List Value} (hlen : ∀ sig, parseMethodDescriptor y.desc = some sig → argsL.length = sig.parameters.length)
    (hstack : g.stack = argsL.reverse ++ .ref b :: rest) (hW : 2 * g.monitorRoom + (rest.map fun v => v.category).sum ≤ W) (hdg : decode c.code g.pc = .ok (.invokevirtual index, 3))
    (hpre : ∀ vm₁, s.WarmedH vm₁ → Pre ⟨T.setVm vm₁, locs, cells, slots⟩ (Value.ref b :: argsL).toArray) :
    (∃ (v : Option Value) (vm₁ : Vm) (B : Pt), s.WarmedH vm₁ ∧ Stand p l e R s m args below meth c B.U B.locs B.cells B.slots ∧ Post ⟨T.setVm vm₁, locs, cells, slots⟩ (Value.ref b :: argsL).toArray v B ∧
      ∀ target, Steps p.tables e below (B.U.setTop { g with pc := g.pc + 3, stack := v.toList ++ rest }) target → Steps p.tables e below (T.setTop g) target) ∨
    (∃ (q : Addr) (vm₁ : Vm) (B : Pt), s.WarmedH vm₁ ∧ Stand p l e R s m args below meth c B.U B.locs B.cells B.slots ∧ PostX ⟨T.setVm vm₁, locs, cells, slots⟩ (Value.ref b :: argsL).toArray q B ∧
      Steps p.tables e below (T.setTop g) ((B.U.setTop { g with stack := rest }).pushFrame (.throwing q))) := by
  obtain ⟨mk, methM, hnamed, hmethM, hstM, habM⟩ := Cond.instanceMethod_spec hinst
  obtain ⟨methM', cM, hmethM', -, -, -, -, -, -, hsigM⟩ := Cond.code_spec hnamed hcode
  cases hmethM.symm.trans hmethM'
  obtain ⟨c2, r2, m2, q1, q2, q3, q4, kP, hkP, hkPi⟩ := Cond.selects_spec hsel
  cases hcls.symm.trans q1
  cases (State.methodFound?_of_named hnamed hy).symm.trans q2
  cases hnamed.symm.trans q3
  have hselP : selectMethod e.platform s.vm cellB.cls mk = .method mk := by rw [Launch.admits_selectMethod X.admits]; exact q4
  obtain ⟨vm₁, X₁, hstep₁⟩ := X.invokevirtualNest hexec hown hlink hnamed hmethM hstM hkP hkPi hy (a := b) (cell := cellB) hcell
    (fun z h => by rw [h] at hobj; cases hobj) hselP hmethM habM hkP hkPi (g := g) hg (argsL := argsL) (rest := rest) (hlen _ hsigM) hstack hdg
  rcases hK m meth c ⟨T.setVm vm₁, locs, cells, slots⟩ { g with stack := rest } (.invokevirtual index) mk (Value.ref b :: argsL).toArray X₁ hg hsize hdg hW (X₁.named hnamed) (hpre vm₁ X₁.warmed) with ⟨v, B, X', hpost, hsteps⟩ | ⟨q, B, X', hpost, hsteps⟩
  · exact Or.inl ⟨v, vm₁, B, X₁.warmed, X', hpost, fun target h => hstep₁ _ fun acts => by rw [doInvoke_state]; exact hsteps.trans h⟩
  · exact Or.inr ⟨q, vm₁, B, X₁.warmed, X', hpost, hstep₁ _ fun acts => by rw [doInvoke_state]; exact hsteps⟩
theorem vx_callSN (X : Stand p l e R s m args below meth c T locs cells slots) (hexec : p.tables.exec = Jvm.exec) {own : String} {index : Nat} {host : String} {y : MethodName} {bytes : ByteArray} {maxL : Nat} {ret : Option FieldType}
    (hown : s.vm.findClass own = some m.cls) (hlink : (Cond.methodLinkNest own index y host).before args s = true) (hstat : (Cond.static y).before args s = true) (hinit : (Cond.initialized y.cls).before args s = true)
    (hcode : (Cond.code y bytes maxL ret).before args s = true) (hy : y.cls ≠ "java/lang/invoke/MethodHandle" ∧ y.cls ≠ "java/lang/invoke/VarHandle")
    {W : Nat} {Pre : Pt → Array Value → Prop} {Post : Pt → Array Value → Option Value → Pt → Prop} {PostX : Pt → Array Value → Addr → Pt → Prop} (hK : vx_Back l R p e below s args y 3 W Pre Post PostX)
    {g : JFrame} (hg : g.method = m) (hsize : g.locals.size = c.maxLocals) {argsL rest : List Value} (hlen : ∀ sig, parseMethodDescriptor y.desc = some sig → argsL.length = sig.parameters.length)
    (hstack : g.stack = argsL.reverse ++ rest) (hW : 2 * g.monitorRoom + (rest.map fun v => v.category).sum ≤ W) (hdg : decode c.code g.pc = .ok (.invokestatic index, 3))
    (hpre : ∀ vm₁, s.WarmedH vm₁ → Pre ⟨T.setVm vm₁, locs, cells, slots⟩ argsL.toArray) :
    (∃ (v : Option Value) (vm₁ : Vm) (B : Pt), s.WarmedH vm₁ ∧ Stand p l e R s m args below meth c B.U B.locs B.cells B.slots ∧ Post ⟨T.setVm vm₁, locs, cells, slots⟩ argsL.toArray v B ∧
      ∀ target, Steps p.tables e below (B.U.setTop { g with pc := g.pc + 3, stack := v.toList ++ rest }) target → Steps p.tables e below (T.setTop g) target) ∨
    (∃ (q : Addr) (vm₁ : Vm) (B : Pt), s.WarmedH vm₁ ∧ Stand p l e R s m args below meth c B.U B.locs B.cells B.slots ∧ PostX ⟨T.setVm vm₁, locs, cells, slots⟩ argsL.toArray q B ∧
      Steps p.tables e below (T.setTop g) ((B.U.setTop { g with stack := rest }).pushFrame (.throwing q))) := by
  obtain ⟨mk, hnamed⟩ := Cond.code_named hcode
  obtain ⟨methM, cM, hmethM, -, -, -, -, -, -, hsigM⟩ := Cond.code_spec hnamed hcode
  have hstatic : methM.isStatic = true := Cond.static_spec hnamed hmethM hstat
  obtain ⟨kP, hkP, -⟩ := className_of_methodNamed hnamed
  have hinitP : kP.init = .initialized := Cond.initialized_spec (findClass_of_methodNamed hnamed) hkP hinit
  obtain ⟨vm₁, X₁, hstep₁⟩ := X.invokestaticNest hexec hown hlink hnamed hmethM hstatic hkP hinitP hy (g := g) hg (argsL := argsL) (rest := rest) (hlen _ hsigM) hstack hdg
  rcases hK m meth c ⟨T.setVm vm₁, locs, cells, slots⟩ { g with stack := rest } (.invokestatic index) mk argsL.toArray X₁ hg hsize hdg hW (X₁.named hnamed) (hpre vm₁ X₁.warmed) with ⟨v, B, X', hpost, hsteps⟩ | ⟨q, B, X', hpost, hsteps⟩
  · exact Or.inl ⟨v, vm₁, B, X₁.warmed, X', hpost, fun target h => hstep₁ _ fun acts => by rw [doInvoke_state]; exact hsteps.trans h⟩
  · exact Or.inr ⟨q, vm₁, B, X₁.warmed, X', hpost, hstep₁ _ fun acts => by rw [doInvoke_state]; exact hsteps⟩
theorem vx_runVN {y : MethodName} {bytes cc : ByteArray} {maxL nL mc ms n index : Nat} {ret : Option FieldType} {ws : List Cond} {rm : Room} {Pc : Array Value → State → Prop} {Qc : Array Value → State → Outcome → State → Prop} {XC : String → State → State → Prop} {free : Addr → Prop} {Ts : List Cond} {own C host : String} {b : Addr} {As rest : List Value} {g : JFrame}
    (S : CallFix p m c cc nL s args Ts own) (hM : vx_Met l y ws rm Pc Qc XC mc ms free) (cw : va_CN R s args own index y host bytes maxL ret ws rm mc ms n ∧ (Cond.instanceMethod y).before args s = true ∧ (Cond.selects C y y).before args s = true) (hp : PreV s H C b Pc As)
    (hg : g.method = m) (hn : As.length = n) (hsize : g.locals.size = nL) (hstack : g.stack = As.reverse ++ .ref b :: rest) (hW : 2 * g.monitorRoom + (rest.map fun v => v.category).sum ≤ 8) (hdg : decode cc g.pc = .ok (.invokevirtual index, 3)) (hf : cells + mc ≤ R.cells ∧ slots + ms ≤ R.slots) :
    vx_Run p l e R s m args below meth c H locs cells slots mc ms g rest (Qc (Value.ref b :: As).toArray) XC free := by
  obtain ⟨⟨⟨hrc, hrs, hfr, hlo, hws, hcw⟩, hcode, hini, hy, hlen, hl⟩, hx1, hx2⟩ := cw
  have hK : vx_Back l R p e below s args y 3 8 (PreOf R mc ms Pc) (PostOf Qc mc ms free) (vx_Post XC mc ms free) := vx_back (bytes := bytes) (maxL := maxL) (ret := ret) hM hp.1 hrc hrs hfr hlo hws hcw (fun a' U hW => word_at hW (Or.inl (by first | rfl | simp [Cond.onTables, Cond.keeps, Cond.steady])) hini)
  obtain ⟨hx, hb, hml, ho, -⟩ := S
  obtain ⟨-, ⟨cellB, hcB, hoB, hclB⟩, hPc⟩ := hp
  intro T hT X
  rcases vx_callVN X hx (C := C) (bytes := bytes) (maxL := maxL) (ret := ret) ho hl hx1 hx2 hcode hy hK (by rw [hT]; exact hcB) hoB hclB hg (hsize.trans hml.symm) (argsL := As) (rest := rest) (fun sig h => hn.trans (hlen sig h)) hstack hW (by rw [hb]; exact hdg)
    (fun vm₁ hW₁ => ⟨hf.1, hf.2, hPc (T.setVm vm₁) hT hW₁⟩) with ⟨v, vm₁, ⟨U', l2, c2, s2⟩, hW₁, X', ⟨g', mk, t, L, e1, e2, hq, h1, hL, h2, h3⟩, st⟩ | ⟨q, vm₁, ⟨U', l2, c2, s2⟩, hW₁, X', ⟨g', mk, t, L, E, ce, e1, e2, hq, hce, hcv, hcl, h1, hL, h2, h3⟩, st⟩
  · dsimp only [Pt.U, Pt.locs, Pt.cells, Pt.slots] at X' e1 e2 h1 h2 h3 st
    subst h1; subst h2; subst h3
    exact Or.inl ⟨v, (T.setVm vm₁).calling g' mk (Value.ref b :: As).toArray, t, U', L, hT, X', hL, e1, e2, hq, st⟩
  · dsimp only [Pt.U, Pt.locs, Pt.cells, Pt.slots] at X' e1 e2 h1 h2 h3 st hcl
    subst h1; subst h2; subst h3
    exact Or.inr ⟨q, (T.setVm vm₁).calling g' mk (Value.ref b :: As).toArray, t, U', L, E, ce, hT, X', hL, e1, e2, hq, hce, hcv, vx_cls hW₁ hcl, st⟩
theorem vx_runSN {y : MethodName} {bytes cc : ByteArray} {maxL nL mc ms n index : Nat} {ret : Option FieldType} {ws : List Cond} {rm : Room} {Pc : Array Value → State → Prop} {Qc : Array Value → State → Outcome → State → Prop} {XC : String → State → State → Prop} {free : Addr → Prop} {Ts : List Cond} {own host : String} {As rest : List Value} {g : JFrame}
    (S : CallFix p m c cc nL s args Ts own) (hM : vx_Met l y ws rm Pc Qc XC mc ms free) (cw : va_CN R s args own index y host bytes maxL ret ws rm mc ms n ∧ (Cond.static y).before args s = true ∧ True) (hp : PreS s H Pc As)
    (hg : g.method = m) (hn : As.length = n) (hsize : g.locals.size = nL) (hstack : g.stack = As.reverse ++ rest) (hW : 2 * g.monitorRoom + (rest.map fun v => v.category).sum ≤ 8) (hdg : decode cc g.pc = .ok (.invokestatic index, 3)) (hf : cells + mc ≤ R.cells ∧ slots + ms ≤ R.slots) :
    vx_Run p l e R s m args below meth c H locs cells slots mc ms g rest (Qc As.toArray) XC free := by
  obtain ⟨⟨⟨hrc, hrs, hfr, hlo, hws, hcw⟩, hcode, hini, hy, hlen, hl⟩, hx1, hx2⟩ := cw
  have hK : vx_Back l R p e below s args y 3 8 (PreOf R mc ms Pc) (PostOf Qc mc ms free) (vx_Post XC mc ms free) := vx_back (bytes := bytes) (maxL := maxL) (ret := ret) hM hp.1 hrc hrs hfr hlo hws hcw (fun a' U hW => word_at hW (Or.inl (by first | rfl | simp [Cond.onTables, Cond.keeps, Cond.steady])) hini)
  obtain ⟨hx, hb, hml, ho, -⟩ := S
  have hPc := hp.2
  intro T hT X
  rcases vx_callSN X hx (bytes := bytes) (maxL := maxL) (ret := ret) ho hl hx1 hini hcode hy hK hg (hsize.trans hml.symm) (argsL := As) (rest := rest) (fun sig h => hn.trans (hlen sig h)) hstack hW (by rw [hb]; exact hdg)
    (fun vm₁ hW₁ => ⟨hf.1, hf.2, hPc (T.setVm vm₁) hT hW₁⟩) with ⟨v, vm₁, ⟨U', l2, c2, s2⟩, hW₁, X', ⟨g', mk, t, L, e1, e2, hq, h1, hL, h2, h3⟩, st⟩ | ⟨q, vm₁, ⟨U', l2, c2, s2⟩, hW₁, X', ⟨g', mk, t, L, E, ce, e1, e2, hq, hce, hcv, hcl, h1, hL, h2, h3⟩, st⟩
  · dsimp only [Pt.U, Pt.locs, Pt.cells, Pt.slots] at X' e1 e2 h1 h2 h3 st
    subst h1; subst h2; subst h3
    exact Or.inl ⟨v, (T.setVm vm₁).calling g' mk As.toArray, t, U', L, hT, X', hL, e1, e2, hq, st⟩
  · dsimp only [Pt.U, Pt.locs, Pt.cells, Pt.slots] at X' e1 e2 h1 h2 h3 st hcl
    subst h1; subst h2; subst h3
    exact Or.inr ⟨q, (T.setVm vm₁).calling g' mk As.toArray, t, U', L, E, ce, hT, X', hL, e1, e2, hq, hce, hcv, vx_cls hW₁ hcl, st⟩
end
/-! ===== END ===== -/
def RX0 : String := "MilkRound$Farms"
def TX0 : u_T := fun k => match k with
  | 0 => ("MilkRound$Farms", "count", "I", false)
  | 1 => ("MilkRound$Farms", "rooms", "[I", true)
  | 2 => ("MilkRound$Farms", "tanks", "[I", true)
  | 3 => ("MilkRound$Farms", "cows", "[I", true)
  | _ => ("MilkRound$Farms", "bests", "[[I", true)
def tyX0 : Nat → FieldType := fun k => match k with
  | 0 => .int
  | 1 => .array .int
  | 2 => .array .int
  | 3 => .array .int
  | _ => .array (.array .int)
abbrev wsX00 : List Cond := u_ws RX0 TX0 5
theorem nmX0 : ∀ a, a < 5 → ∀ b, b < 5 → a ≠ b → (TX0 a).2.1 ≠ (TX0 b).2.1 := by decide +kernel
theorem tyX0_ok : ∀ k, k < 5 → parseFieldDescriptor (TX0 k).2.2.1 = some (tyX0 k) := by decide +kernel
abbrev cX0_init : ByteArray := prog_2_method_1_code
def yX0_init : MethodName := ⟨RX0, "<init>", "()V"⟩
abbrev cX0_add : ByteArray := prog_2_method_2_code
def yX0_add : MethodName := ⟨RX0, "add", "(I)I"⟩
abbrev cX0_addCowTo : ByteArray := prog_2_method_3_code
def yX0_addCowTo : MethodName := ⟨RX0, "addCowTo", "(II)I"⟩
abbrev cX0_milkOn : ByteArray := prog_2_method_4_code
def yX0_milkOn : MethodName := ⟨RX0, "milkOn", "(II)I"⟩
abbrev cX0_milkOfCow : ByteArray := prog_2_method_5_code
def yX0_milkOfCow : MethodName := ⟨RX0, "milkOfCow", "(II)I"⟩
abbrev cX0_milkAll : ByteArray := prog_2_method_6_code
def yX0_milkAll : MethodName := ⟨RX0, "milkAll", "(I)I"⟩
abbrev cX0_draw : ByteArray := prog_2_method_7_code
def yX0_draw : MethodName := ⟨RX0, "draw", "(II)I"⟩
def RX1 : String := "MilkRound$Samples"
def TX1 : u_T := fun k => match k with
  | 0 => ("MilkRound$Samples", "count", "I", false)
  | 1 => ("MilkRound$Samples", "farm", "[I", true)
  | 2 => ("MilkRound$Samples", "amount", "[I", true)
  | 3 => ("MilkRound$Samples", "mark", "[C", true)
  | 4 => ("MilkRound$Samples", "place", "[C", true)
  | 5 => ("MilkRound$Samples", "number", "[I", true)
  | 6 => ("MilkRound$Samples", "paid", "[I", true)
  | _ => ("MilkRound$Samples", "blamed", "[I", true)
def tyX1 : Nat → FieldType := fun k => match k with
  | 0 => .int
  | 1 => .array .int
  | 2 => .array .int
  | 3 => .array .char
  | 4 => .array .char
  | 5 => .array .int
  | 6 => .array .int
  | _ => .array .int
abbrev wsX10 : List Cond := u_ws RX1 TX1 8
theorem nmX1 : ∀ a, a < 8 → ∀ b, b < 8 → a ≠ b → (TX1 a).2.1 ≠ (TX1 b).2.1 := by decide +kernel
theorem tyX1_ok : ∀ k, k < 8 → parseFieldDescriptor (TX1 k).2.2.1 = some (tyX1 k) := by decide +kernel
abbrev cX1_init : ByteArray := prog_3_method_1_code
def yX1_init : MethodName := ⟨RX1, "<init>", "()V"⟩
abbrev cX1_add : ByteArray := prog_3_method_2_code
def yX1_add : MethodName := ⟨RX1, "add", "(II)V"⟩
abbrev cX1_isIn : ByteArray := prog_3_method_3_code
def yX1_isIn : MethodName := ⟨RX1, "isIn", "(ICI)Z"⟩
abbrev cX1_move : ByteArray := prog_3_method_4_code
def yX1_move : MethodName := ⟨RX1, "move", "(CICI)V"⟩
abbrev cX1_countIn : ByteArray := prog_3_method_5_code
def yX1_countIn : MethodName := ⟨RX1, "countIn", "(CI)I"⟩
abbrev cX1_litresIn : ByteArray := prog_3_method_6_code
def yX1_litresIn : MethodName := ⟨RX1, "litresIn", "(CI)I"⟩
abbrev cX1_allLitres : ByteArray := prog_3_method_7_code
def yX1_allLitres : MethodName := ⟨RX1, "allLitres", "()I"⟩
abbrev cX1_ungraded : ByteArray := prog_3_method_8_code
def yX1_ungraded : MethodName := ⟨RX1, "ungraded", "()I"⟩
abbrev cX1_shareAt : ByteArray := prog_3_method_9_code
def yX1_shareAt : MethodName := ⟨RX1, "shareAt", "(II)I"⟩
abbrev cX1_isGraded : ByteArray := prog_3_method_10_code
def yX1_isGraded : MethodName := ⟨RX1, "isGraded", "(I)Z"⟩
abbrev cX1_isSpoilt : ByteArray := prog_3_method_11_code
def yX1_isSpoilt : MethodName := ⟨RX1, "isSpoilt", "(I)Z"⟩
abbrev cX1_isSpoiltIn : ByteArray := prog_3_method_12_code
def yX1_isSpoiltIn : MethodName := ⟨RX1, "isSpoiltIn", "(II)Z"⟩
abbrev cX1_spoiltLitres : ByteArray := prog_3_method_13_code
def yX1_spoiltLitres : MethodName := ⟨RX1, "spoiltLitres", "(I)I"⟩
abbrev cX1_centsALitre : ByteArray := prog_3_method_14_code
def yX1_centsALitre : MethodName := ⟨RX1, "centsALitre", "(C)I"⟩
abbrev cX1_valueOfSample : ByteArray := prog_3_method_15_code
def yX1_valueOfSample : MethodName := ⟨RX1, "valueOfSample", "(I)I"⟩
abbrev cX1_valueOf : ByteArray := prog_3_method_16_code
def yX1_valueOf : MethodName := ⟨RX1, "valueOf", "(I)I"⟩
abbrev cX1_payOfAll : ByteArray := prog_3_method_17_code
def yX1_payOfAll : MethodName := ⟨RX1, "payOfAll", "(I)I"⟩
abbrev cX1_lossOf : ByteArray := prog_3_method_18_code
def yX1_lossOf : MethodName := ⟨RX1, "lossOf", "(I)I"⟩
abbrev cX1_settle : ByteArray := prog_3_method_19_code
def yX1_settle : MethodName := ⟨RX1, "settle", "(I)V"⟩
abbrev cX1_settlePay : ByteArray := prog_3_method_20_code
def yX1_settlePay : MethodName := ⟨RX1, "settlePay", "(I)V"⟩
abbrev cX1_settleBlame : ByteArray := prog_3_method_21_code
def yX1_settleBlame : MethodName := ⟨RX1, "settleBlame", "(II)V"⟩
abbrev cX1_paidTo : ByteArray := prog_3_method_22_code
def yX1_paidTo : MethodName := ⟨RX1, "paidTo", "(II)I"⟩
abbrev cX1_blamedOn : ByteArray := prog_3_method_23_code
def yX1_blamedOn : MethodName := ⟨RX1, "blamedOn", "(II)I"⟩
abbrev cX1_balanceOf : ByteArray := prog_3_method_24_code
def yX1_balanceOf : MethodName := ⟨RX1, "balanceOf", "(I)J"⟩
def RX2 : String := "MilkRound"
def TX2 : u_T := fun k => match k with
  | 0 => ("MilkRound", "today", "I", false)
  | 1 => ("MilkRound", "farms", "LMilkRound$Farms;", true)
  | 2 => ("MilkRound", "vatCount", "I", false)
  | 3 => ("MilkRound", "vatRooms", "[I", true)
  | 4 => ("MilkRound", "rounds", "I", false)
  | 5 => ("MilkRound", "roundUnderWay", "Z", false)
  | 6 => ("MilkRound", "visited", "[Z", true)
  | 7 => ("MilkRound", "taken", "LMilkRound$Samples;", true)
  | _ => ("MilkRound", "batchCount", "I", false)
def tyX2 : Nat → FieldType := fun k => match k with
  | 0 => .int
  | 1 => .object "MilkRound$Farms"
  | 2 => .int
  | 3 => .array .int
  | 4 => .int
  | 5 => .boolean
  | 6 => .array .boolean
  | 7 => .object "MilkRound$Samples"
  | _ => .int
abbrev wsX20 : List Cond := u_ws RX2 TX2 9
theorem nmX2 : ∀ a, a < 9 → ∀ b, b < 9 → a ≠ b → (TX2 a).2.1 ≠ (TX2 b).2.1 := by decide +kernel
theorem tyX2_ok : ∀ k, k < 9 → parseFieldDescriptor (TX2 k).2.2.1 = some (tyX2 k) := by decide +kernel
abbrev cX2_init : ByteArray := prog_1_method_1_code
def yX2_init : MethodName := ⟨RX2, "<init>", "()V"⟩
abbrev cX2_addFarm : ByteArray := prog_1_method_2_code
def yX2_addFarm : MethodName := ⟨RX2, "addFarm", "(I)I"⟩
abbrev cX2_addCow : ByteArray := prog_1_method_3_code
def yX2_addCow : MethodName := ⟨RX2, "addCow", "(II)I"⟩
abbrev cX2_milkOf : ByteArray := prog_1_method_4_code
def yX2_milkOf : MethodName := ⟨RX2, "milkOf", "(II)I"⟩
abbrev cX2_inTank : ByteArray := prog_1_method_5_code
def yX2_inTank : MethodName := ⟨RX2, "inTank", "(I)I"⟩
abbrev cX2_pass : ByteArray := prog_1_method_6_code
def yX2_pass : MethodName := ⟨RX2, "pass", "(I)I"⟩
abbrev cX2_day : ByteArray := prog_1_method_7_code
def yX2_day : MethodName := ⟨RX2, "day", "()I"⟩
abbrev cX2_addVat : ByteArray := prog_1_method_8_code
def yX2_addVat : MethodName := ⟨RX2, "addVat", "(I)I"⟩
abbrev cX2_beginRound : ByteArray := prog_1_method_9_code
def yX2_beginRound : MethodName := ⟨RX2, "beginRound", "()I"⟩
abbrev cX2_visit : ByteArray := prog_1_method_10_code
def yX2_visit : MethodName := ⟨RX2, "visit", "(I)I"⟩
abbrev cX2_endRound : ByteArray := prog_1_method_11_code
def yX2_endRound : MethodName := ⟨RX2, "endRound", "(I)I"⟩
abbrev cX2_inTanker : ByteArray := prog_1_method_12_code
def yX2_inTanker : MethodName := ⟨RX2, "inTanker", "()I"⟩
abbrev cX2_inVat : ByteArray := prog_1_method_13_code
def yX2_inVat : MethodName := ⟨RX2, "inVat", "(I)I"⟩
abbrev cX2_bestVat : ByteArray := prog_1_method_14_code
def yX2_bestVat : MethodName := ⟨RX2, "bestVat", "()I"⟩
abbrev cX2_close : ByteArray := prog_1_method_15_code
def yX2_close : MethodName := ⟨RX2, "close", "(I)I"⟩
abbrev cX2_samples : ByteArray := prog_1_method_16_code
def yX2_samples : MethodName := ⟨RX2, "samples", "()I"⟩
abbrev cX2_farmOf : ByteArray := prog_1_method_17_code
def yX2_farmOf : MethodName := ⟨RX2, "farmOf", "(I)I"⟩
abbrev cX2_litres : ByteArray := prog_1_method_18_code
def yX2_litres : MethodName := ⟨RX2, "litres", "(I)I"⟩
abbrev cX2_grade : ByteArray := prog_1_method_19_code
def yX2_grade : MethodName := ⟨RX2, "grade", "(IC)I"⟩
abbrev cX2_gradeOf : ByteArray := prog_1_method_20_code
def yX2_gradeOf : MethodName := ⟨RX2, "gradeOf", "(I)C"⟩
abbrev cX2_batches : ByteArray := prog_1_method_21_code
def yX2_batches : MethodName := ⟨RX2, "batches", "()I"⟩
abbrev cX2_stateOf : ByteArray := prog_1_method_22_code
def yX2_stateOf : MethodName := ⟨RX2, "stateOf", "(I)C"⟩
abbrev cX2_share : ByteArray := prog_1_method_23_code
def yX2_share : MethodName := ⟨RX2, "share", "(II)I"⟩
abbrev cX2_worth : ByteArray := prog_1_method_24_code
def yX2_worth : MethodName := ⟨RX2, "worth", "(I)I"⟩
abbrev cX2_loss : ByteArray := prog_1_method_25_code
def yX2_loss : MethodName := ⟨RX2, "loss", "(I)I"⟩
abbrev cX2_pay : ByteArray := prog_1_method_26_code
def yX2_pay : MethodName := ⟨RX2, "pay", "(I)J"⟩
abbrev cX2_blame : ByteArray := prog_1_method_27_code
def yX2_blame : MethodName := ⟨RX2, "blame", "(I)J"⟩
abbrev cX2_balanceBySamples : ByteArray := prog_1_method_28_code
def yX2_balanceBySamples : MethodName := ⟨RX2, "balanceBySamples", "(I)J"⟩
abbrev cX2_wayOf : ByteArray := prog_1_method_29_code
def yX2_wayOf : MethodName := ⟨RX2, "wayOf", "(I)C"⟩
abbrev cX2_spoiltShare : ByteArray := prog_1_method_30_code
def yX2_spoiltShare : MethodName := ⟨RX2, "spoiltShare", "()F"⟩
abbrev cX2_meanPay : ByteArray := prog_1_method_31_code
def yX2_meanPay : MethodName := ⟨RX2, "meanPay", "()D"⟩
abbrev cX2_freeRoom : ByteArray := prog_1_method_32_code
def yX2_freeRoom : MethodName := ⟨RX2, "freeRoom", "(I)I"⟩
abbrev cX2_requireFarm : ByteArray := prog_1_method_33_code
def yX2_requireFarm : MethodName := ⟨RX2, "requireFarm", "(I)V"⟩
abbrev cX2_requireVat : ByteArray := prog_1_method_34_code
def yX2_requireVat : MethodName := ⟨RX2, "requireVat", "(I)V"⟩
abbrev cX2_requireSample : ByteArray := prog_1_method_35_code
def yX2_requireSample : MethodName := ⟨RX2, "requireSample", "(I)V"⟩
abbrev cX2_requireBatch : ByteArray := prog_1_method_36_code
def yX2_requireBatch : MethodName := ⟨RX2, "requireBatch", "(I)V"⟩
abbrev cX2_requireGradedBatch : ByteArray := prog_1_method_37_code
def yX2_requireGradedBatch : MethodName := ⟨RX2, "requireGradedBatch", "(I)V"⟩
def RX3 : String := "MilkRoundModel"
def TX3 : u_T := fun k => match k with
  | 0 => ("MilkRoundModel", "day", "I", false)
  | 1 => ("MilkRoundModel", "rooms", "[I", true)
  | 2 => ("MilkRoundModel", "tanks", "[I", true)
  | 3 => ("MilkRoundModel", "bests", "[I", true)
  | 4 => ("MilkRoundModel", "cows", "[I", true)
  | 5 => ("MilkRoundModel", "farms", "I", false)
  | 6 => ("MilkRoundModel", "vatRooms", "[I", true)
  | 7 => ("MilkRoundModel", "inVats", "[I", true)
  | 8 => ("MilkRoundModel", "vatShares", "[I", true)
  | 9 => ("MilkRoundModel", "vats", "I", false)
  | 10 => ("MilkRoundModel", "isUnderWay", "Z", false)
  | 11 => ("MilkRoundModel", "isVisited", "[Z", true)
  | 12 => ("MilkRoundModel", "rounds", "I", false)
  | 13 => ("MilkRoundModel", "inTanker", "I", false)
  | 14 => ("MilkRoundModel", "farmOf", "[I", true)
  | 15 => ("MilkRoundModel", "litres", "[I", true)
  | 16 => ("MilkRoundModel", "grades", "[C", true)
  | 17 => ("MilkRoundModel", "ways", "[I", true)
  | 18 => ("MilkRoundModel", "samples", "I", false)
  | 19 => ("MilkRoundModel", "batches", "I", false)
  | _ => ("MilkRoundModel", "thrown", "I", false)
def tyX3 : Nat → FieldType := fun k => match k with
  | 0 => .int
  | 1 => .array .int
  | 2 => .array .int
  | 3 => .array .int
  | 4 => .array .int
  | 5 => .int
  | 6 => .array .int
  | 7 => .array .int
  | 8 => .array .int
  | 9 => .int
  | 10 => .boolean
  | 11 => .array .boolean
  | 12 => .int
  | 13 => .int
  | 14 => .array .int
  | 15 => .array .int
  | 16 => .array .char
  | 17 => .array .int
  | 18 => .int
  | 19 => .int
  | _ => .int
abbrev wsX30 : List Cond := u_ws RX3 TX3 21
theorem nmX3 : ∀ a, a < 21 → ∀ b, b < 21 → a ≠ b → (TX3 a).2.1 ≠ (TX3 b).2.1 := by decide +kernel
theorem tyX3_ok : ∀ k, k < 21 → parseFieldDescriptor (TX3 k).2.2.1 = some (tyX3 k) := by decide +kernel
abbrev cX3_init : ByteArray := prog_5_method_1_code
def yX3_init : MethodName := ⟨RX3, "<init>", "()V"⟩
abbrev cX3_thrown : ByteArray := prog_5_method_2_code
def yX3_thrown : MethodName := ⟨RX3, "thrown", "()I"⟩
abbrev cX3_in : ByteArray := prog_5_method_3_code
def yX3_in : MethodName := ⟨RX3, "in", "(JJJ)Z"⟩
abbrev cX3_addFarm : ByteArray := prog_5_method_4_code
def yX3_addFarm : MethodName := ⟨RX3, "addFarm", "(I)I"⟩
abbrev cX3_isFarm : ByteArray := prog_5_method_5_code
def yX3_isFarm : MethodName := ⟨RX3, "isFarm", "(I)Z"⟩
abbrev cX3_addCow : ByteArray := prog_5_method_6_code
def yX3_addCow : MethodName := ⟨RX3, "addCow", "(II)I"⟩
abbrev cX3_gives : ByteArray := prog_5_method_7_code
def yX3_gives : MethodName := ⟨RX3, "gives", "(II)I"⟩
abbrev cX3_milkOf : ByteArray := prog_5_method_8_code
def yX3_milkOf : MethodName := ⟨RX3, "milkOf", "(II)I"⟩
abbrev cX3_inTank : ByteArray := prog_5_method_9_code
def yX3_inTank : MethodName := ⟨RX3, "inTank", "(I)I"⟩
abbrev cX3_pass : ByteArray := prog_5_method_10_code
def yX3_pass : MethodName := ⟨RX3, "pass", "(I)I"⟩
abbrev cX3_day : ByteArray := prog_5_method_11_code
def yX3_day : MethodName := ⟨RX3, "day", "()I"⟩
abbrev cX3_addVat : ByteArray := prog_5_method_12_code
def yX3_addVat : MethodName := ⟨RX3, "addVat", "(I)I"⟩
abbrev cX3_beginRound : ByteArray := prog_5_method_13_code
def yX3_beginRound : MethodName := ⟨RX3, "beginRound", "()I"⟩
abbrev cX3_visit : ByteArray := prog_5_method_14_code
def yX3_visit : MethodName := ⟨RX3, "visit", "(I)I"⟩
abbrev cX3_isVat : ByteArray := prog_5_method_15_code
def yX3_isVat : MethodName := ⟨RX3, "isVat", "(I)Z"⟩
abbrev cX3_onWay : ByteArray := prog_5_method_16_code
def yX3_onWay : MethodName := ⟨RX3, "onWay", "(I)I"⟩
abbrev cX3_endRound : ByteArray := prog_5_method_17_code
def yX3_endRound : MethodName := ⟨RX3, "endRound", "(I)I"⟩
abbrev cX3_inTanker : ByteArray := prog_5_method_18_code
def yX3_inTanker : MethodName := ⟨RX3, "inTanker", "()I"⟩
abbrev cX3_inVat : ByteArray := prog_5_method_19_code
def yX3_inVat : MethodName := ⟨RX3, "inVat", "(I)I"⟩
abbrev cX3_bestVat : ByteArray := prog_5_method_20_code
def yX3_bestVat : MethodName := ⟨RX3, "bestVat", "()I"⟩
abbrev cX3_close : ByteArray := prog_5_method_21_code
def yX3_close : MethodName := ⟨RX3, "close", "(I)I"⟩
abbrev cX3_samples : ByteArray := prog_5_method_22_code
def yX3_samples : MethodName := ⟨RX3, "samples", "()I"⟩
abbrev cX3_isSample : ByteArray := prog_5_method_23_code
def yX3_isSample : MethodName := ⟨RX3, "isSample", "(I)Z"⟩
abbrev cX3_farmOf : ByteArray := prog_5_method_24_code
def yX3_farmOf : MethodName := ⟨RX3, "farmOf", "(I)I"⟩
abbrev cX3_litres : ByteArray := prog_5_method_25_code
def yX3_litres : MethodName := ⟨RX3, "litres", "(I)I"⟩
abbrev cX3_grade : ByteArray := prog_5_method_26_code
def yX3_grade : MethodName := ⟨RX3, "grade", "(IC)I"⟩
abbrev cX3_gradeOf : ByteArray := prog_5_method_27_code
def yX3_gradeOf : MethodName := ⟨RX3, "gradeOf", "(I)C"⟩
abbrev cX3_batches : ByteArray := prog_5_method_28_code
def yX3_batches : MethodName := ⟨RX3, "batches", "()I"⟩
abbrev cX3_has : ByteArray := prog_5_method_29_code
def yX3_has : MethodName := ⟨RX3, "has", "(IC)Z"⟩
abbrev cX3_isBatch : ByteArray := prog_5_method_30_code
def yX3_isBatch : MethodName := ⟨RX3, "isBatch", "(I)Z"⟩
abbrev cX3_stateOf : ByteArray := prog_5_method_31_code
def yX3_stateOf : MethodName := ⟨RX3, "stateOf", "(I)C"⟩
abbrev cX3_share : ByteArray := prog_5_method_32_code
def yX3_share : MethodName := ⟨RX3, "share", "(II)I"⟩
abbrev cX3_worthOf : ByteArray := prog_5_method_33_code
def yX3_worthOf : MethodName := ⟨RX3, "worthOf", "(I)I"⟩
abbrev cX3_payOf : ByteArray := prog_5_method_34_code
def yX3_payOf : MethodName := ⟨RX3, "payOf", "(I)I"⟩
abbrev cX3_lossOf : ByteArray := prog_5_method_35_code
def yX3_lossOf : MethodName := ⟨RX3, "lossOf", "(I)I"⟩
abbrev cX3_blameOf : ByteArray := prog_5_method_36_code
def yX3_blameOf : MethodName := ⟨RX3, "blameOf", "(I)I"⟩
abbrev cX3_isGraded : ByteArray := prog_5_method_37_code
def yX3_isGraded : MethodName := ⟨RX3, "isGraded", "(I)Z"⟩
abbrev cX3_worth : ByteArray := prog_5_method_38_code
def yX3_worth : MethodName := ⟨RX3, "worth", "(I)I"⟩
abbrev cX3_loss : ByteArray := prog_5_method_39_code
def yX3_loss : MethodName := ⟨RX3, "loss", "(I)I"⟩
abbrev cX3_counts : ByteArray := prog_5_method_40_code
def yX3_counts : MethodName := ⟨RX3, "counts", "(II)Z"⟩
abbrev cX3_pay : ByteArray := prog_5_method_41_code
def yX3_pay : MethodName := ⟨RX3, "pay", "(I)J"⟩
abbrev cX3_blame : ByteArray := prog_5_method_42_code
def yX3_blame : MethodName := ⟨RX3, "blame", "(I)J"⟩
abbrev cX3_balanceBySamples : ByteArray := prog_5_method_43_code
def yX3_balanceBySamples : MethodName := ⟨RX3, "balanceBySamples", "(I)J"⟩
abbrev cX3_wayOf : ByteArray := prog_5_method_44_code
def yX3_wayOf : MethodName := ⟨RX3, "wayOf", "(I)C"⟩
abbrev cX3_spoiltShare : ByteArray := prog_5_method_45_code
def yX3_spoiltShare : MethodName := ⟨RX3, "spoiltShare", "()F"⟩
abbrev cX3_meanPay : ByteArray := prog_5_method_46_code
def yX3_meanPay : MethodName := ⟨RX3, "meanPay", "()D"⟩
def RL : String := "MilkRoundLaw"
abbrev cL_addFarm : ByteArray := method_3_code
def yL_addFarm : MethodName := ⟨RL, "addFarm", "(LMilkRound;I[J)I"⟩
abbrev cL_addCow : ByteArray := method_4_code
def yL_addCow : MethodName := ⟨RL, "addCow", "(LMilkRound;II[J)I"⟩
abbrev cL_milkOf : ByteArray := method_5_code
def yL_milkOf : MethodName := ⟨RL, "milkOf", "(LMilkRound;II[J)I"⟩
abbrev cL_inTank : ByteArray := method_6_code
def yL_inTank : MethodName := ⟨RL, "inTank", "(LMilkRound;I[J)I"⟩
abbrev cL_pass : ByteArray := method_7_code
def yL_pass : MethodName := ⟨RL, "pass", "(LMilkRound;I[J)I"⟩
abbrev cL_addVat : ByteArray := method_8_code
def yL_addVat : MethodName := ⟨RL, "addVat", "(LMilkRound;I[J)I"⟩
abbrev cL_beginRound : ByteArray := method_9_code
def yL_beginRound : MethodName := ⟨RL, "beginRound", "(LMilkRound;[J)I"⟩
abbrev cL_visit : ByteArray := method_10_code
def yL_visit : MethodName := ⟨RL, "visit", "(LMilkRound;I[J)I"⟩
abbrev cL_endRound : ByteArray := method_11_code
def yL_endRound : MethodName := ⟨RL, "endRound", "(LMilkRound;I[J)I"⟩
abbrev cL_inVat : ByteArray := method_12_code
def yL_inVat : MethodName := ⟨RL, "inVat", "(LMilkRound;I[J)I"⟩
abbrev cL_bestVat : ByteArray := method_13_code
def yL_bestVat : MethodName := ⟨RL, "bestVat", "(LMilkRound;[J)I"⟩
abbrev cL_close : ByteArray := method_14_code
def yL_close : MethodName := ⟨RL, "close", "(LMilkRound;I[J)I"⟩
abbrev cL_farmOf : ByteArray := method_15_code
def yL_farmOf : MethodName := ⟨RL, "farmOf", "(LMilkRound;I[J)I"⟩
abbrev cL_litres : ByteArray := method_16_code
def yL_litres : MethodName := ⟨RL, "litres", "(LMilkRound;I[J)I"⟩
abbrev cL_grade : ByteArray := method_17_code
def yL_grade : MethodName := ⟨RL, "grade", "(LMilkRound;IC[J)I"⟩
abbrev cL_gradeOf : ByteArray := method_18_code
def yL_gradeOf : MethodName := ⟨RL, "gradeOf", "(LMilkRound;I[J)I"⟩
abbrev cL_stateOf : ByteArray := method_19_code
def yL_stateOf : MethodName := ⟨RL, "stateOf", "(LMilkRound;I[J)I"⟩
abbrev cL_share : ByteArray := method_20_code
def yL_share : MethodName := ⟨RL, "share", "(LMilkRound;II[J)I"⟩
abbrev cL_worth : ByteArray := method_21_code
def yL_worth : MethodName := ⟨RL, "worth", "(LMilkRound;I[J)I"⟩
abbrev cL_loss : ByteArray := method_22_code
def yL_loss : MethodName := ⟨RL, "loss", "(LMilkRound;I[J)I"⟩
abbrev cL_pay : ByteArray := method_23_code
def yL_pay : MethodName := ⟨RL, "pay", "(LMilkRound;I[J)I"⟩
abbrev cL_blame : ByteArray := method_24_code
def yL_blame : MethodName := ⟨RL, "blame", "(LMilkRound;I[J)I"⟩
abbrev cL_balanceBySamples : ByteArray := method_25_code
def yL_balanceBySamples : MethodName := ⟨RL, "balanceBySamples", "(LMilkRound;I[J)I"⟩
abbrev cL_wayOf : ByteArray := method_26_code
def yL_wayOf : MethodName := ⟨RL, "wayOf", "(LMilkRound;I[J)I"⟩
abbrev cL_spoiltShare : ByteArray := method_27_code
def yL_spoiltShare : MethodName := ⟨RL, "spoiltShare", "(LMilkRound;[D)I"⟩
abbrev cL_meanPay : ByteArray := method_28_code
def yL_meanPay : MethodName := ⟨RL, "meanPay", "(LMilkRound;[D)I"⟩
abbrev cL_law : ByteArray := code
def yL_law : MethodName := ⟨RL, "law", "([I)Z"⟩
abbrev kCl : List vw_C := [(RX0, TX0, 5), (RX1, TX1, 8), (RX2, TX2, 9), (RX3, TX3, 21)]
end
section
def lw_all : List Cond := lw_tbl.filter goodWord
theorem lw_all_tbl {w : Cond} (h : w ∈ lw_all) : w ∈ lw_tbl := (List.mem_filter.mp h).1
theorem lw_all_good : GoodIn lw_all lw_all := fun w h => ⟨h, good_of_word (List.mem_filter.mp h).2⟩
theorem qs_0 : Cond.selects "MilkRound$Samples" yX1_litresIn yX1_litresIn ∈ lw_all := List.mem_filter.mpr ⟨List.mem_of_getElem? (i := 0) (by decide +kernel), by decide +kernel⟩
theorem qs_1 : Cond.selects "MilkRound$Samples" yX1_isIn yX1_isIn ∈ lw_all := List.mem_filter.mpr ⟨List.mem_of_getElem? (i := 1) (by decide +kernel), by decide +kernel⟩
theorem qs_2 : Cond.selects "java/lang/Throwable" ⟨"java/lang/Throwable", "fillInStackTrace", "(I)Ljava/lang/Throwable;"⟩ ⟨"java/lang/Throwable", "fillInStackTrace", "(I)Ljava/lang/Throwable;"⟩ ∈ lw_all := List.mem_filter.mpr ⟨List.mem_of_getElem? (i := 2) (by decide +kernel), by decide +kernel⟩
theorem qs_3 : Cond.selects "MilkRound$Farms" yX0_add yX0_add ∈ lw_all := List.mem_filter.mpr ⟨List.mem_of_getElem? (i := 3) (by decide +kernel), by decide +kernel⟩
theorem qs_4 : Cond.selects "MilkRound" yX2_requireFarm yX2_requireFarm ∈ lw_all := List.mem_filter.mpr ⟨List.mem_of_getElem? (i := 4) (by decide +kernel), by decide +kernel⟩
theorem qs_5 : Cond.selects "MilkRound$Farms" yX0_addCowTo yX0_addCowTo ∈ lw_all := List.mem_filter.mpr ⟨List.mem_of_getElem? (i := 5) (by decide +kernel), by decide +kernel⟩
theorem qs_6 : Cond.selects "MilkRound$Farms" yX0_milkOn yX0_milkOn ∈ lw_all := List.mem_filter.mpr ⟨List.mem_of_getElem? (i := 6) (by decide +kernel), by decide +kernel⟩
theorem qs_7 : Cond.selects "MilkRound$Farms" yX0_milkAll yX0_milkAll ∈ lw_all := List.mem_filter.mpr ⟨List.mem_of_getElem? (i := 7) (by decide +kernel), by decide +kernel⟩
theorem qs_8 : Cond.selects "MilkRound$Farms" yX0_draw yX0_draw ∈ lw_all := List.mem_filter.mpr ⟨List.mem_of_getElem? (i := 8) (by decide +kernel), by decide +kernel⟩
theorem qs_9 : Cond.selects "MilkRound$Samples" yX1_add yX1_add ∈ lw_all := List.mem_filter.mpr ⟨List.mem_of_getElem? (i := 9) (by decide +kernel), by decide +kernel⟩
theorem qs_10 : Cond.selects "MilkRound" yX2_requireVat yX2_requireVat ∈ lw_all := List.mem_filter.mpr ⟨List.mem_of_getElem? (i := 10) (by decide +kernel), by decide +kernel⟩
theorem qs_11 : Cond.selects "MilkRound" yX2_freeRoom yX2_freeRoom ∈ lw_all := List.mem_filter.mpr ⟨List.mem_of_getElem? (i := 11) (by decide +kernel), by decide +kernel⟩
theorem qs_12 : Cond.selects "MilkRound$Samples" yX1_countIn yX1_countIn ∈ lw_all := List.mem_filter.mpr ⟨List.mem_of_getElem? (i := 12) (by decide +kernel), by decide +kernel⟩
theorem qs_13 : Cond.selects "MilkRound$Samples" yX1_move yX1_move ∈ lw_all := List.mem_filter.mpr ⟨List.mem_of_getElem? (i := 13) (by decide +kernel), by decide +kernel⟩
theorem qs_14 : Cond.selects "MilkRound$Samples" yX1_settle yX1_settle ∈ lw_all := List.mem_filter.mpr ⟨List.mem_of_getElem? (i := 14) (by decide +kernel), by decide +kernel⟩
theorem qs_15 : Cond.selects "MilkRound$Samples" yX1_isGraded yX1_isGraded ∈ lw_all := List.mem_filter.mpr ⟨List.mem_of_getElem? (i := 15) (by decide +kernel), by decide +kernel⟩
theorem qs_16 : Cond.selects "MilkRound$Samples" yX1_spoiltLitres yX1_spoiltLitres ∈ lw_all := List.mem_filter.mpr ⟨List.mem_of_getElem? (i := 16) (by decide +kernel), by decide +kernel⟩
theorem qs_17 : Cond.selects "MilkRound$Samples" yX1_isSpoiltIn yX1_isSpoiltIn ∈ lw_all := List.mem_filter.mpr ⟨List.mem_of_getElem? (i := 17) (by decide +kernel), by decide +kernel⟩
theorem qs_18 : Cond.selects "MilkRound$Samples" yX1_settleBlame yX1_settleBlame ∈ lw_all := List.mem_filter.mpr ⟨List.mem_of_getElem? (i := 18) (by decide +kernel), by decide +kernel⟩
theorem qs_19 : Cond.selects "MilkRound$Samples" yX1_lossOf yX1_lossOf ∈ lw_all := List.mem_filter.mpr ⟨List.mem_of_getElem? (i := 19) (by decide +kernel), by decide +kernel⟩
theorem qs_20 : Cond.selects "MilkRound$Samples" yX1_isSpoilt yX1_isSpoilt ∈ lw_all := List.mem_filter.mpr ⟨List.mem_of_getElem? (i := 20) (by decide +kernel), by decide +kernel⟩
theorem qs_21 : Cond.selects "MilkRound$Samples" yX1_valueOf yX1_valueOf ∈ lw_all := List.mem_filter.mpr ⟨List.mem_of_getElem? (i := 21) (by decide +kernel), by decide +kernel⟩
theorem qs_22 : Cond.selects "MilkRound$Samples" yX1_valueOfSample yX1_valueOfSample ∈ lw_all := List.mem_filter.mpr ⟨List.mem_of_getElem? (i := 22) (by decide +kernel), by decide +kernel⟩
theorem qs_23 : Cond.selects "MilkRound$Samples" yX1_settlePay yX1_settlePay ∈ lw_all := List.mem_filter.mpr ⟨List.mem_of_getElem? (i := 23) (by decide +kernel), by decide +kernel⟩
theorem qs_24 : Cond.selects "MilkRound" yX2_requireSample yX2_requireSample ∈ lw_all := List.mem_filter.mpr ⟨List.mem_of_getElem? (i := 24) (by decide +kernel), by decide +kernel⟩
theorem qs_25 : Cond.selects "MilkRound$Samples" yX1_ungraded yX1_ungraded ∈ lw_all := List.mem_filter.mpr ⟨List.mem_of_getElem? (i := 25) (by decide +kernel), by decide +kernel⟩
theorem qs_26 : Cond.selects "MilkRound" yX2_requireBatch yX2_requireBatch ∈ lw_all := List.mem_filter.mpr ⟨List.mem_of_getElem? (i := 26) (by decide +kernel), by decide +kernel⟩
theorem qs_27 : Cond.selects "MilkRound$Samples" yX1_shareAt yX1_shareAt ∈ lw_all := List.mem_filter.mpr ⟨List.mem_of_getElem? (i := 27) (by decide +kernel), by decide +kernel⟩
theorem qs_28 : Cond.selects "MilkRound" yX2_requireGradedBatch yX2_requireGradedBatch ∈ lw_all := List.mem_filter.mpr ⟨List.mem_of_getElem? (i := 28) (by decide +kernel), by decide +kernel⟩
theorem qs_29 : Cond.selects "MilkRound$Samples" yX1_payOfAll yX1_payOfAll ∈ lw_all := List.mem_filter.mpr ⟨List.mem_of_getElem? (i := 29) (by decide +kernel), by decide +kernel⟩
theorem qs_30 : Cond.selects "MilkRound$Samples" yX1_paidTo yX1_paidTo ∈ lw_all := List.mem_filter.mpr ⟨List.mem_of_getElem? (i := 30) (by decide +kernel), by decide +kernel⟩
theorem qs_31 : Cond.selects "MilkRound$Samples" yX1_blamedOn yX1_blamedOn ∈ lw_all := List.mem_filter.mpr ⟨List.mem_of_getElem? (i := 31) (by decide +kernel), by decide +kernel⟩
theorem qs_32 : Cond.selects "MilkRound$Samples" yX1_balanceOf yX1_balanceOf ∈ lw_all := List.mem_filter.mpr ⟨List.mem_of_getElem? (i := 32) (by decide +kernel), by decide +kernel⟩
theorem qs_33 : Cond.selects "MilkRound$Samples" yX1_allLitres yX1_allLitres ∈ lw_all := List.mem_filter.mpr ⟨List.mem_of_getElem? (i := 33) (by decide +kernel), by decide +kernel⟩
theorem qs_34 : Cond.selects "MilkRoundModel" yX3_isFarm yX3_isFarm ∈ lw_all := List.mem_filter.mpr ⟨List.mem_of_getElem? (i := 34) (by decide +kernel), by decide +kernel⟩
theorem qs_35 : Cond.selects "MilkRoundModel" yX3_isVat yX3_isVat ∈ lw_all := List.mem_filter.mpr ⟨List.mem_of_getElem? (i := 35) (by decide +kernel), by decide +kernel⟩
theorem qs_36 : Cond.selects "MilkRoundModel" yX3_onWay yX3_onWay ∈ lw_all := List.mem_filter.mpr ⟨List.mem_of_getElem? (i := 36) (by decide +kernel), by decide +kernel⟩
theorem qs_37 : Cond.selects "MilkRoundModel" yX3_isSample yX3_isSample ∈ lw_all := List.mem_filter.mpr ⟨List.mem_of_getElem? (i := 37) (by decide +kernel), by decide +kernel⟩
theorem qs_38 : Cond.selects "MilkRoundModel" yX3_isBatch yX3_isBatch ∈ lw_all := List.mem_filter.mpr ⟨List.mem_of_getElem? (i := 38) (by decide +kernel), by decide +kernel⟩
theorem qs_39 : Cond.selects "MilkRoundModel" yX3_has yX3_has ∈ lw_all := List.mem_filter.mpr ⟨List.mem_of_getElem? (i := 39) (by decide +kernel), by decide +kernel⟩
theorem qs_40 : Cond.selects "MilkRoundModel" yX3_isGraded yX3_isGraded ∈ lw_all := List.mem_filter.mpr ⟨List.mem_of_getElem? (i := 40) (by decide +kernel), by decide +kernel⟩
theorem qs_41 : Cond.selects "MilkRoundModel" yX3_payOf yX3_payOf ∈ lw_all := List.mem_filter.mpr ⟨List.mem_of_getElem? (i := 41) (by decide +kernel), by decide +kernel⟩
theorem qs_42 : Cond.selects "MilkRoundModel" yX3_worthOf yX3_worthOf ∈ lw_all := List.mem_filter.mpr ⟨List.mem_of_getElem? (i := 42) (by decide +kernel), by decide +kernel⟩
theorem qs_43 : Cond.selects "MilkRoundModel" yX3_lossOf yX3_lossOf ∈ lw_all := List.mem_filter.mpr ⟨List.mem_of_getElem? (i := 43) (by decide +kernel), by decide +kernel⟩
theorem qs_44 : Cond.selects "MilkRoundModel" yX3_counts yX3_counts ∈ lw_all := List.mem_filter.mpr ⟨List.mem_of_getElem? (i := 44) (by decide +kernel), by decide +kernel⟩
theorem qs_45 : Cond.selects "MilkRoundModel" yX3_blameOf yX3_blameOf ∈ lw_all := List.mem_filter.mpr ⟨List.mem_of_getElem? (i := 45) (by decide +kernel), by decide +kernel⟩
theorem q_0 : (Cond.initialized "MilkRoundLaw") ∈ lw_all := List.mem_filter.mpr ⟨List.mem_of_getElem? (i := 46) (by decide +kernel), by decide +kernel⟩
theorem q_1 : (Cond.initialized "MilkRound") ∈ lw_all := List.mem_filter.mpr ⟨List.mem_of_getElem? (i := 47) (by decide +kernel), by decide +kernel⟩
theorem q_2 : (Cond.initialized "MilkRound$Farms") ∈ lw_all := List.mem_filter.mpr ⟨List.mem_of_getElem? (i := 48) (by decide +kernel), by decide +kernel⟩
theorem q_3 : (Cond.initialized "MilkRound$Samples") ∈ lw_all := List.mem_filter.mpr ⟨List.mem_of_getElem? (i := 49) (by decide +kernel), by decide +kernel⟩
theorem q_4 : (Cond.initialized "MilkRoundModel") ∈ lw_all := List.mem_filter.mpr ⟨List.mem_of_getElem? (i := 50) (by decide +kernel), by decide +kernel⟩
theorem q_5 : (Cond.initialized "java/lang/Throwable") ∈ lw_all := List.mem_filter.mpr ⟨List.mem_of_getElem? (i := 51) (by decide +kernel), by decide +kernel⟩
theorem q_6 : (Cond.initialized "java/lang/Exception") ∈ lw_all := List.mem_filter.mpr ⟨List.mem_of_getElem? (i := 52) (by decide +kernel), by decide +kernel⟩
theorem q_7 : (Cond.initialized "java/lang/RuntimeException") ∈ lw_all := List.mem_filter.mpr ⟨List.mem_of_getElem? (i := 53) (by decide +kernel), by decide +kernel⟩
theorem q_8 : (Cond.initialized "java/lang/IllegalArgumentException") ∈ lw_all := List.mem_filter.mpr ⟨List.mem_of_getElem? (i := 54) (by decide +kernel), by decide +kernel⟩
theorem q_9 : (Cond.initialized "java/lang/IllegalStateException") ∈ lw_all := List.mem_filter.mpr ⟨List.mem_of_getElem? (i := 55) (by decide +kernel), by decide +kernel⟩
theorem q_10 : (Cond.initialized "java/lang/IndexOutOfBoundsException") ∈ lw_all := List.mem_filter.mpr ⟨List.mem_of_getElem? (i := 56) (by decide +kernel), by decide +kernel⟩
theorem q_11 : (Cond.initialized "java/lang/ArrayIndexOutOfBoundsException") ∈ lw_all := List.mem_filter.mpr ⟨List.mem_of_getElem? (i := 57) (by decide +kernel), by decide +kernel⟩
theorem q_12 : (Cond.initialized "java/lang/String") ∈ lw_all := List.mem_filter.mpr ⟨List.mem_of_getElem? (i := 58) (by decide +kernel), by decide +kernel⟩
theorem q_13 : (Cond.initialized "java/lang/Math") ∈ lw_all := List.mem_filter.mpr ⟨List.mem_of_getElem? (i := 59) (by decide +kernel), by decide +kernel⟩
theorem q_14 : (Cond.initialized "java/lang/UnsupportedOperationException") ∈ lw_all := List.mem_filter.mpr ⟨List.mem_of_getElem? (i := 60) (by decide +kernel), by decide +kernel⟩
theorem q_15 : (Cond.initialized "java/util/NoSuchElementException") ∈ lw_all := List.mem_filter.mpr ⟨List.mem_of_getElem? (i := 61) (by decide +kernel), by decide +kernel⟩
theorem q_16 : (Cond.initialized "java/lang/ArithmeticException") ∈ lw_all := List.mem_filter.mpr ⟨List.mem_of_getElem? (i := 62) (by decide +kernel), by decide +kernel⟩
theorem q_17 : (Cond.classLink "MilkRoundLaw" (8 : Nat) "MilkRound") ∈ lw_all := List.mem_filter.mpr ⟨List.mem_of_getElem? (i := 63) (by decide +kernel), by decide +kernel⟩
theorem q_18 : (Cond.instantiable "MilkRound" (9 : Nat)) ∈ lw_all := List.mem_filter.mpr ⟨List.mem_of_getElem? (i := 64) (by decide +kernel), by decide +kernel⟩
theorem q_19 : (Cond.methodLink "MilkRoundLaw" (107 : Nat) yX2_init) ∈ lw_all := List.mem_filter.mpr ⟨List.mem_of_getElem? (i := 65) (by decide +kernel), by decide +kernel⟩
theorem q_20 : (Cond.instanceMethod yX2_init) ∈ lw_all := List.mem_filter.mpr ⟨List.mem_of_getElem? (i := 66) (by decide +kernel), by decide +kernel⟩
theorem q_21 : (Cond.code yX2_init prog_1_method_1_code (1 : Nat) (Option.none : Option Jvm.ClassFile.FieldType)) ∈ lw_all := List.mem_filter.mpr ⟨List.mem_of_getElem? (i := 67) (by decide +kernel), by decide +kernel⟩
theorem q_22 : (Cond.methodLink "MilkRound" (1 : Nat) ⟨"java/lang/Object", "<init>", "()V"⟩) ∈ lw_all := List.mem_filter.mpr ⟨List.mem_of_getElem? (i := 68) (by decide +kernel), by decide +kernel⟩
theorem q_23 : (Cond.instanceMethod ⟨"java/lang/Object", "<init>", "()V"⟩) ∈ lw_all := List.mem_filter.mpr ⟨List.mem_of_getElem? (i := 69) (by decide +kernel), by decide +kernel⟩
theorem q_24 : (Cond.code ⟨"java/lang/Object", "<init>", "()V"⟩ object_method_1_code (1 : Nat) (Option.none : Option Jvm.ClassFile.FieldType)) ∈ lw_all := List.mem_filter.mpr ⟨List.mem_of_getElem? (i := 70) (by decide +kernel), by decide +kernel⟩
theorem q_25 : (Cond.classLink "MilkRound" (13 : Nat) "MilkRound$Farms") ∈ lw_all := List.mem_filter.mpr ⟨List.mem_of_getElem? (i := 71) (by decide +kernel), by decide +kernel⟩
theorem q_26 : (Cond.instantiable "MilkRound$Farms" (5 : Nat)) ∈ lw_all := List.mem_filter.mpr ⟨List.mem_of_getElem? (i := 72) (by decide +kernel), by decide +kernel⟩
theorem q_28 : (Cond.instanceMethod yX0_init) ∈ lw_all := List.mem_filter.mpr ⟨List.mem_of_getElem? (i := 74) (by decide +kernel), by decide +kernel⟩
theorem q_29 : (Cond.code yX0_init prog_2_method_1_code (1 : Nat) (Option.none : Option Jvm.ClassFile.FieldType)) ∈ lw_all := List.mem_filter.mpr ⟨List.mem_of_getElem? (i := 75) (by decide +kernel), by decide +kernel⟩
theorem q_30 : (Cond.methodLink "MilkRound$Farms" (3 : Nat) ⟨"java/lang/Object", "<init>", "()V"⟩) ∈ lw_all := List.mem_filter.mpr ⟨List.mem_of_getElem? (i := 76) (by decide +kernel), by decide +kernel⟩
theorem q_31 : (Cond.classLink "MilkRound$Farms" (25 : Nat) "[[I") ∈ lw_all := List.mem_filter.mpr ⟨List.mem_of_getElem? (i := 77) (by decide +kernel), by decide +kernel⟩
theorem q_33 : (Cond.fieldLink "MilkRound$Farms" (9 : Nat) "MilkRound$Farms" "count" "I") ∈ lw_all := List.mem_filter.mpr ⟨List.mem_of_getElem? (i := 79) (by decide +kernel), by decide +kernel⟩
theorem q_35 : (Cond.fieldLink "MilkRound$Farms" (15 : Nat) "MilkRound$Farms" "rooms" "[I") ∈ lw_all := List.mem_filter.mpr ⟨List.mem_of_getElem? (i := 81) (by decide +kernel), by decide +kernel⟩
theorem q_36 : (Cond.fieldLink "MilkRound$Farms" (19 : Nat) "MilkRound$Farms" "tanks" "[I") ∈ lw_all := List.mem_filter.mpr ⟨List.mem_of_getElem? (i := 82) (by decide +kernel), by decide +kernel⟩
theorem q_38 : (Cond.fieldLink "MilkRound$Farms" (22 : Nat) "MilkRound$Farms" "cows" "[I") ∈ lw_all := List.mem_filter.mpr ⟨List.mem_of_getElem? (i := 84) (by decide +kernel), by decide +kernel⟩
theorem q_40 : (Cond.fieldLink "MilkRound$Farms" (27 : Nat) "MilkRound$Farms" "bests" "[[I") ∈ lw_all := List.mem_filter.mpr ⟨List.mem_of_getElem? (i := 86) (by decide +kernel), by decide +kernel⟩
theorem q_41 : (Cond.lays "MilkRound$Farms" "MilkRound$Farms" "count" "I") ∈ lw_all := List.mem_filter.mpr ⟨List.mem_of_getElem? (i := 87) (by decide +kernel), by decide +kernel⟩
theorem q_43 : (Cond.laysFinal "MilkRound$Farms" "MilkRound$Farms" "rooms" "[I") ∈ lw_all := List.mem_filter.mpr ⟨List.mem_of_getElem? (i := 89) (by decide +kernel), by decide +kernel⟩
theorem q_45 : (Cond.laysFinal "MilkRound$Farms" "MilkRound$Farms" "tanks" "[I") ∈ lw_all := List.mem_filter.mpr ⟨List.mem_of_getElem? (i := 91) (by decide +kernel), by decide +kernel⟩
theorem q_47 : (Cond.laysFinal "MilkRound$Farms" "MilkRound$Farms" "cows" "[I") ∈ lw_all := List.mem_filter.mpr ⟨List.mem_of_getElem? (i := 93) (by decide +kernel), by decide +kernel⟩
theorem q_49 : (Cond.laysFinal "MilkRound$Farms" "MilkRound$Farms" "bests" "[[I") ∈ lw_all := List.mem_filter.mpr ⟨List.mem_of_getElem? (i := 95) (by decide +kernel), by decide +kernel⟩
theorem q_52 : (Cond.arrayClass Jvm.ClassFile.FieldType.int) ∈ lw_all := List.mem_filter.mpr ⟨List.mem_of_getElem? (i := 98) (by decide +kernel), by decide +kernel⟩
theorem q_53 : (Cond.classLink "MilkRound" (38 : Nat) "MilkRound$Samples") ∈ lw_all := List.mem_filter.mpr ⟨List.mem_of_getElem? (i := 99) (by decide +kernel), by decide +kernel⟩
theorem q_54 : (Cond.instantiable "MilkRound$Samples" (8 : Nat)) ∈ lw_all := List.mem_filter.mpr ⟨List.mem_of_getElem? (i := 100) (by decide +kernel), by decide +kernel⟩
theorem q_56 : (Cond.instanceMethod yX1_init) ∈ lw_all := List.mem_filter.mpr ⟨List.mem_of_getElem? (i := 102) (by decide +kernel), by decide +kernel⟩
theorem q_57 : (Cond.code yX1_init prog_3_method_1_code (1 : Nat) (Option.none : Option Jvm.ClassFile.FieldType)) ∈ lw_all := List.mem_filter.mpr ⟨List.mem_of_getElem? (i := 103) (by decide +kernel), by decide +kernel⟩
theorem q_58 : (Cond.methodLink "MilkRound$Samples" (3 : Nat) ⟨"java/lang/Object", "<init>", "()V"⟩) ∈ lw_all := List.mem_filter.mpr ⟨List.mem_of_getElem? (i := 104) (by decide +kernel), by decide +kernel⟩
theorem q_59 : (Cond.fieldLink "MilkRound$Samples" (9 : Nat) "MilkRound$Samples" "count" "I") ∈ lw_all := List.mem_filter.mpr ⟨List.mem_of_getElem? (i := 105) (by decide +kernel), by decide +kernel⟩
theorem q_61 : (Cond.fieldLink "MilkRound$Samples" (15 : Nat) "MilkRound$Samples" "farm" "[I") ∈ lw_all := List.mem_filter.mpr ⟨List.mem_of_getElem? (i := 107) (by decide +kernel), by decide +kernel⟩
theorem q_63 : (Cond.fieldLink "MilkRound$Samples" (19 : Nat) "MilkRound$Samples" "amount" "[I") ∈ lw_all := List.mem_filter.mpr ⟨List.mem_of_getElem? (i := 109) (by decide +kernel), by decide +kernel⟩
theorem q_65 : (Cond.fieldLink "MilkRound$Samples" (22 : Nat) "MilkRound$Samples" "mark" "[C") ∈ lw_all := List.mem_filter.mpr ⟨List.mem_of_getElem? (i := 111) (by decide +kernel), by decide +kernel⟩
theorem q_67 : (Cond.fieldLink "MilkRound$Samples" (26 : Nat) "MilkRound$Samples" "place" "[C") ∈ lw_all := List.mem_filter.mpr ⟨List.mem_of_getElem? (i := 113) (by decide +kernel), by decide +kernel⟩
theorem q_69 : (Cond.fieldLink "MilkRound$Samples" (29 : Nat) "MilkRound$Samples" "number" "[I") ∈ lw_all := List.mem_filter.mpr ⟨List.mem_of_getElem? (i := 115) (by decide +kernel), by decide +kernel⟩
theorem q_71 : (Cond.fieldLink "MilkRound$Samples" (32 : Nat) "MilkRound$Samples" "paid" "[I") ∈ lw_all := List.mem_filter.mpr ⟨List.mem_of_getElem? (i := 117) (by decide +kernel), by decide +kernel⟩
theorem q_72 : (Cond.fieldLink "MilkRound$Samples" (35 : Nat) "MilkRound$Samples" "blamed" "[I") ∈ lw_all := List.mem_filter.mpr ⟨List.mem_of_getElem? (i := 118) (by decide +kernel), by decide +kernel⟩
theorem q_73 : (Cond.lays "MilkRound$Samples" "MilkRound$Samples" "count" "I") ∈ lw_all := List.mem_filter.mpr ⟨List.mem_of_getElem? (i := 119) (by decide +kernel), by decide +kernel⟩
theorem q_75 : (Cond.laysFinal "MilkRound$Samples" "MilkRound$Samples" "farm" "[I") ∈ lw_all := List.mem_filter.mpr ⟨List.mem_of_getElem? (i := 121) (by decide +kernel), by decide +kernel⟩
theorem q_77 : (Cond.laysFinal "MilkRound$Samples" "MilkRound$Samples" "amount" "[I") ∈ lw_all := List.mem_filter.mpr ⟨List.mem_of_getElem? (i := 123) (by decide +kernel), by decide +kernel⟩
theorem q_79 : (Cond.laysFinal "MilkRound$Samples" "MilkRound$Samples" "mark" "[C") ∈ lw_all := List.mem_filter.mpr ⟨List.mem_of_getElem? (i := 125) (by decide +kernel), by decide +kernel⟩
theorem q_81 : (Cond.laysFinal "MilkRound$Samples" "MilkRound$Samples" "place" "[C") ∈ lw_all := List.mem_filter.mpr ⟨List.mem_of_getElem? (i := 127) (by decide +kernel), by decide +kernel⟩
theorem q_83 : (Cond.laysFinal "MilkRound$Samples" "MilkRound$Samples" "number" "[I") ∈ lw_all := List.mem_filter.mpr ⟨List.mem_of_getElem? (i := 129) (by decide +kernel), by decide +kernel⟩
theorem q_85 : (Cond.laysFinal "MilkRound$Samples" "MilkRound$Samples" "paid" "[I") ∈ lw_all := List.mem_filter.mpr ⟨List.mem_of_getElem? (i := 131) (by decide +kernel), by decide +kernel⟩
theorem q_87 : (Cond.laysFinal "MilkRound$Samples" "MilkRound$Samples" "blamed" "[I") ∈ lw_all := List.mem_filter.mpr ⟨List.mem_of_getElem? (i := 133) (by decide +kernel), by decide +kernel⟩
theorem q_90 : (Cond.arrayClass Jvm.ClassFile.FieldType.boolean) ∈ lw_all := List.mem_filter.mpr ⟨List.mem_of_getElem? (i := 136) (by decide +kernel), by decide +kernel⟩
theorem q_91 : (Cond.arrayClass Jvm.ClassFile.FieldType.char) ∈ lw_all := List.mem_filter.mpr ⟨List.mem_of_getElem? (i := 137) (by decide +kernel), by decide +kernel⟩
theorem q_92 : (Cond.fieldLink "MilkRound" (7 : Nat) "MilkRound" "today" "I") ∈ lw_all := List.mem_filter.mpr ⟨List.mem_of_getElem? (i := 138) (by decide +kernel), by decide +kernel⟩
theorem q_93 : (Cond.fieldLink "MilkRound" (16 : Nat) "MilkRound" "farms" "LMilkRound$Farms;") ∈ lw_all := List.mem_filter.mpr ⟨List.mem_of_getElem? (i := 139) (by decide +kernel), by decide +kernel⟩
theorem q_94 : (Cond.fieldLink "MilkRound" (20 : Nat) "MilkRound" "vatCount" "I") ∈ lw_all := List.mem_filter.mpr ⟨List.mem_of_getElem? (i := 140) (by decide +kernel), by decide +kernel⟩
theorem q_95 : (Cond.fieldLink "MilkRound" (23 : Nat) "MilkRound" "vatRooms" "[I") ∈ lw_all := List.mem_filter.mpr ⟨List.mem_of_getElem? (i := 141) (by decide +kernel), by decide +kernel⟩
theorem q_96 : (Cond.fieldLink "MilkRound" (27 : Nat) "MilkRound" "rounds" "I") ∈ lw_all := List.mem_filter.mpr ⟨List.mem_of_getElem? (i := 142) (by decide +kernel), by decide +kernel⟩
theorem q_97 : (Cond.fieldLink "MilkRound" (30 : Nat) "MilkRound" "roundUnderWay" "Z") ∈ lw_all := List.mem_filter.mpr ⟨List.mem_of_getElem? (i := 143) (by decide +kernel), by decide +kernel⟩
theorem q_98 : (Cond.fieldLink "MilkRound" (34 : Nat) "MilkRound" "visited" "[Z") ∈ lw_all := List.mem_filter.mpr ⟨List.mem_of_getElem? (i := 144) (by decide +kernel), by decide +kernel⟩
theorem q_99 : (Cond.fieldLink "MilkRound" (41 : Nat) "MilkRound" "taken" "LMilkRound$Samples;") ∈ lw_all := List.mem_filter.mpr ⟨List.mem_of_getElem? (i := 145) (by decide +kernel), by decide +kernel⟩
theorem q_100 : (Cond.fieldLink "MilkRound" (45 : Nat) "MilkRound" "batchCount" "I") ∈ lw_all := List.mem_filter.mpr ⟨List.mem_of_getElem? (i := 146) (by decide +kernel), by decide +kernel⟩
theorem q_101 : (Cond.lays "MilkRound" "MilkRound" "today" "I") ∈ lw_all := List.mem_filter.mpr ⟨List.mem_of_getElem? (i := 147) (by decide +kernel), by decide +kernel⟩
theorem q_103 : (Cond.laysFinal "MilkRound" "MilkRound" "farms" "LMilkRound$Farms;") ∈ lw_all := List.mem_filter.mpr ⟨List.mem_of_getElem? (i := 149) (by decide +kernel), by decide +kernel⟩
theorem q_105 : (Cond.lays "MilkRound" "MilkRound" "vatCount" "I") ∈ lw_all := List.mem_filter.mpr ⟨List.mem_of_getElem? (i := 151) (by decide +kernel), by decide +kernel⟩
theorem q_107 : (Cond.laysFinal "MilkRound" "MilkRound" "vatRooms" "[I") ∈ lw_all := List.mem_filter.mpr ⟨List.mem_of_getElem? (i := 153) (by decide +kernel), by decide +kernel⟩
theorem q_109 : (Cond.lays "MilkRound" "MilkRound" "rounds" "I") ∈ lw_all := List.mem_filter.mpr ⟨List.mem_of_getElem? (i := 155) (by decide +kernel), by decide +kernel⟩
theorem q_111 : (Cond.lays "MilkRound" "MilkRound" "roundUnderWay" "Z") ∈ lw_all := List.mem_filter.mpr ⟨List.mem_of_getElem? (i := 157) (by decide +kernel), by decide +kernel⟩
theorem q_113 : (Cond.laysFinal "MilkRound" "MilkRound" "visited" "[Z") ∈ lw_all := List.mem_filter.mpr ⟨List.mem_of_getElem? (i := 159) (by decide +kernel), by decide +kernel⟩
theorem q_115 : (Cond.laysFinal "MilkRound" "MilkRound" "taken" "LMilkRound$Samples;") ∈ lw_all := List.mem_filter.mpr ⟨List.mem_of_getElem? (i := 161) (by decide +kernel), by decide +kernel⟩
theorem q_117 : (Cond.lays "MilkRound" "MilkRound" "batchCount" "I") ∈ lw_all := List.mem_filter.mpr ⟨List.mem_of_getElem? (i := 163) (by decide +kernel), by decide +kernel⟩
theorem q_120 : (Cond.methodLink "MilkRoundLaw" (133 : Nat) yX2_day) ∈ lw_all := List.mem_filter.mpr ⟨List.mem_of_getElem? (i := 166) (by decide +kernel), by decide +kernel⟩
theorem q_121 : (Cond.instanceMethod yX2_day) ∈ lw_all := List.mem_filter.mpr ⟨List.mem_of_getElem? (i := 167) (by decide +kernel), by decide +kernel⟩
theorem q_122 : (Cond.selects "MilkRound" yX2_day yX2_day) ∈ lw_all := List.mem_filter.mpr ⟨List.mem_of_getElem? (i := 168) (by decide +kernel), by decide +kernel⟩
theorem q_123 : (Cond.code yX2_day prog_1_method_7_code (1 : Nat) (Option.some Jvm.ClassFile.FieldType.int)) ∈ lw_all := List.mem_filter.mpr ⟨List.mem_of_getElem? (i := 169) (by decide +kernel), by decide +kernel⟩
theorem q_124 : (Cond.methodLink "MilkRoundLaw" (150 : Nat) yX2_inTanker) ∈ lw_all := List.mem_filter.mpr ⟨List.mem_of_getElem? (i := 170) (by decide +kernel), by decide +kernel⟩
theorem q_125 : (Cond.instanceMethod yX2_inTanker) ∈ lw_all := List.mem_filter.mpr ⟨List.mem_of_getElem? (i := 171) (by decide +kernel), by decide +kernel⟩
theorem q_126 : (Cond.selects "MilkRound" yX2_inTanker yX2_inTanker) ∈ lw_all := List.mem_filter.mpr ⟨List.mem_of_getElem? (i := 172) (by decide +kernel), by decide +kernel⟩
theorem q_127 : (Cond.code yX2_inTanker prog_1_method_12_code (1 : Nat) (Option.some Jvm.ClassFile.FieldType.int)) ∈ lw_all := List.mem_filter.mpr ⟨List.mem_of_getElem? (i := 173) (by decide +kernel), by decide +kernel⟩
theorem q_130 : (Cond.instanceMethod yX1_litresIn) ∈ lw_all := List.mem_filter.mpr ⟨List.mem_of_getElem? (i := 176) (by decide +kernel), by decide +kernel⟩
theorem q_131 : (Cond.code yX1_litresIn prog_3_method_6_code (5 : Nat) (Option.some Jvm.ClassFile.FieldType.int)) ∈ lw_all := List.mem_filter.mpr ⟨List.mem_of_getElem? (i := 177) (by decide +kernel), by decide +kernel⟩
theorem q_132 : (Cond.methodLink "MilkRound$Samples" (38 : Nat) yX1_isIn) ∈ lw_all := List.mem_filter.mpr ⟨List.mem_of_getElem? (i := 178) (by decide +kernel), by decide +kernel⟩
theorem q_134 : (Cond.instanceMethod yX1_isIn) ∈ lw_all := List.mem_filter.mpr ⟨List.mem_of_getElem? (i := 180) (by decide +kernel), by decide +kernel⟩
theorem q_135 : (Cond.code yX1_isIn prog_3_method_3_code (4 : Nat) (Option.some Jvm.ClassFile.FieldType.boolean)) ∈ lw_all := List.mem_filter.mpr ⟨List.mem_of_getElem? (i := 181) (by decide +kernel), by decide +kernel⟩
theorem q_136 : (Cond.methodLink "MilkRoundLaw" (163 : Nat) yX2_samples) ∈ lw_all := List.mem_filter.mpr ⟨List.mem_of_getElem? (i := 182) (by decide +kernel), by decide +kernel⟩
theorem q_137 : (Cond.instanceMethod yX2_samples) ∈ lw_all := List.mem_filter.mpr ⟨List.mem_of_getElem? (i := 183) (by decide +kernel), by decide +kernel⟩
theorem q_138 : (Cond.selects "MilkRound" yX2_samples yX2_samples) ∈ lw_all := List.mem_filter.mpr ⟨List.mem_of_getElem? (i := 184) (by decide +kernel), by decide +kernel⟩
theorem q_139 : (Cond.code yX2_samples prog_1_method_16_code (1 : Nat) (Option.some Jvm.ClassFile.FieldType.int)) ∈ lw_all := List.mem_filter.mpr ⟨List.mem_of_getElem? (i := 185) (by decide +kernel), by decide +kernel⟩
theorem q_140 : (Cond.methodLink "MilkRoundLaw" (180 : Nat) yX2_batches) ∈ lw_all := List.mem_filter.mpr ⟨List.mem_of_getElem? (i := 186) (by decide +kernel), by decide +kernel⟩
theorem q_141 : (Cond.instanceMethod yX2_batches) ∈ lw_all := List.mem_filter.mpr ⟨List.mem_of_getElem? (i := 187) (by decide +kernel), by decide +kernel⟩
theorem q_142 : (Cond.selects "MilkRound" yX2_batches yX2_batches) ∈ lw_all := List.mem_filter.mpr ⟨List.mem_of_getElem? (i := 188) (by decide +kernel), by decide +kernel⟩
theorem q_143 : (Cond.code yX2_batches prog_1_method_21_code (1 : Nat) (Option.some Jvm.ClassFile.FieldType.int)) ∈ lw_all := List.mem_filter.mpr ⟨List.mem_of_getElem? (i := 189) (by decide +kernel), by decide +kernel⟩
theorem q_144 : (Cond.methodLink "MilkRoundLaw" (111 : Nat) yL_addFarm) ∈ lw_all := List.mem_filter.mpr ⟨List.mem_of_getElem? (i := 190) (by decide +kernel), by decide +kernel⟩
theorem q_145 : (Cond.static yL_addFarm) ∈ lw_all := List.mem_filter.mpr ⟨List.mem_of_getElem? (i := 191) (by decide +kernel), by decide +kernel⟩
theorem q_146 : (Cond.codeWith yL_addFarm method_3_code (4 : Nat) (Option.some Jvm.ClassFile.FieldType.int) [((0 : Nat), (9 : Nat), (12 : Nat), (13 : Nat)), ((0 : Nat), (9 : Nat), (15 : Nat), (15 : Nat))]) ∈ lw_all := List.mem_filter.mpr ⟨List.mem_of_getElem? (i := 192) (by decide +kernel), by decide +kernel⟩
theorem q_147 : (Cond.classLink "MilkRoundLaw" (13 : Nat) "java/lang/IllegalArgumentException") ∈ lw_all := List.mem_filter.mpr ⟨List.mem_of_getElem? (i := 193) (by decide +kernel), by decide +kernel⟩
theorem q_148 : (Cond.classLink "MilkRoundLaw" (15 : Nat) "java/lang/IllegalStateException") ∈ lw_all := List.mem_filter.mpr ⟨List.mem_of_getElem? (i := 194) (by decide +kernel), by decide +kernel⟩
theorem q_149 : (Cond.methodLink "MilkRoundLaw" (7 : Nat) yX2_addFarm) ∈ lw_all := List.mem_filter.mpr ⟨List.mem_of_getElem? (i := 195) (by decide +kernel), by decide +kernel⟩
theorem q_150 : (Cond.instanceMethod yX2_addFarm) ∈ lw_all := List.mem_filter.mpr ⟨List.mem_of_getElem? (i := 196) (by decide +kernel), by decide +kernel⟩
theorem q_151 : (Cond.selects "MilkRound" yX2_addFarm yX2_addFarm) ∈ lw_all := List.mem_filter.mpr ⟨List.mem_of_getElem? (i := 197) (by decide +kernel), by decide +kernel⟩
theorem q_152 : (Cond.code yX2_addFarm prog_1_method_2_code (2 : Nat) (Option.some Jvm.ClassFile.FieldType.int)) ∈ lw_all := List.mem_filter.mpr ⟨List.mem_of_getElem? (i := 198) (by decide +kernel), by decide +kernel⟩
theorem q_153 : (Cond.classLink "MilkRound" (48 : Nat) "java/lang/IllegalArgumentException") ∈ lw_all := List.mem_filter.mpr ⟨List.mem_of_getElem? (i := 199) (by decide +kernel), by decide +kernel⟩
theorem q_154 : (Cond.instantiable "java/lang/IllegalArgumentException" (6 : Nat)) ∈ lw_all := List.mem_filter.mpr ⟨List.mem_of_getElem? (i := 200) (by decide +kernel), by decide +kernel⟩
theorem q_162 : (Cond.selects "java/lang/IllegalArgumentException" ⟨"java/lang/Throwable", "fillInStackTrace", "(I)Ljava/lang/Throwable;"⟩ ⟨"java/lang/Throwable", "fillInStackTrace", "(I)Ljava/lang/Throwable;"⟩) ∈ lw_all := List.mem_filter.mpr ⟨List.mem_of_getElem? (i := 208) (by decide +kernel), by decide +kernel⟩
theorem q_163 : (Cond.selects "java/lang/IllegalArgumentException" ⟨"java/lang/Throwable", "fillInStackTrace", "()Ljava/lang/Throwable;"⟩ ⟨"java/lang/Throwable", "fillInStackTrace", "()Ljava/lang/Throwable;"⟩) ∈ lw_all := List.mem_filter.mpr ⟨List.mem_of_getElem? (i := 209) (by decide +kernel), by decide +kernel⟩
theorem q_164 : (Cond.lays "java/lang/IllegalArgumentException" "java/lang/Throwable" "cause" "Ljava/lang/Throwable;") ∈ lw_all := List.mem_filter.mpr ⟨List.mem_of_getElem? (i := 210) (by decide +kernel), by decide +kernel⟩
theorem q_165 : (Cond.lays "java/lang/Throwable" "java/lang/Throwable" "cause" "Ljava/lang/Throwable;") ∈ lw_all := List.mem_filter.mpr ⟨List.mem_of_getElem? (i := 211) (by decide +kernel), by decide +kernel⟩
theorem q_166 : (Cond.lays "java/lang/IllegalArgumentException" "java/lang/Throwable" "stackTrace" "[Ljava/lang/StackTraceElement;") ∈ lw_all := List.mem_filter.mpr ⟨List.mem_of_getElem? (i := 212) (by decide +kernel), by decide +kernel⟩
theorem q_167 : (Cond.lays "java/lang/Throwable" "java/lang/Throwable" "stackTrace" "[Ljava/lang/StackTraceElement;") ∈ lw_all := List.mem_filter.mpr ⟨List.mem_of_getElem? (i := 213) (by decide +kernel), by decide +kernel⟩
theorem q_168 : (Cond.lays "java/lang/IllegalArgumentException" "java/lang/Throwable" "suppressedExceptions" "Ljava/util/List;") ∈ lw_all := List.mem_filter.mpr ⟨List.mem_of_getElem? (i := 214) (by decide +kernel), by decide +kernel⟩
theorem q_169 : (Cond.lays "java/lang/Throwable" "java/lang/Throwable" "suppressedExceptions" "Ljava/util/List;") ∈ lw_all := List.mem_filter.mpr ⟨List.mem_of_getElem? (i := 215) (by decide +kernel), by decide +kernel⟩
theorem q_170 : (Cond.lays "java/lang/IllegalArgumentException" "java/lang/Throwable" "detailMessage" "Ljava/lang/String;") ∈ lw_all := List.mem_filter.mpr ⟨List.mem_of_getElem? (i := 216) (by decide +kernel), by decide +kernel⟩
theorem q_171 : (Cond.lays "java/lang/Throwable" "java/lang/Throwable" "detailMessage" "Ljava/lang/String;") ∈ lw_all := List.mem_filter.mpr ⟨List.mem_of_getElem? (i := 217) (by decide +kernel), by decide +kernel⟩
theorem q_172 : (Cond.lays "java/lang/IllegalArgumentException" "java/lang/Throwable" "backtrace" "Ljava/lang/Object;") ∈ lw_all := List.mem_filter.mpr ⟨List.mem_of_getElem? (i := 218) (by decide +kernel), by decide +kernel⟩
theorem q_173 : (Cond.lays "java/lang/Throwable" "java/lang/Throwable" "backtrace" "Ljava/lang/Object;") ∈ lw_all := List.mem_filter.mpr ⟨List.mem_of_getElem? (i := 219) (by decide +kernel), by decide +kernel⟩
theorem q_174 : (Cond.fieldLink "java/lang/Throwable" (198 : Nat) "java/lang/Throwable" "backtrace" "Ljava/lang/Object;") ∈ lw_all := List.mem_filter.mpr ⟨List.mem_of_getElem? (i := 220) (by decide +kernel), by decide +kernel⟩
theorem q_176 : (Cond.instanceMethod ⟨"java/lang/Throwable", "<init>", "()V"⟩) ∈ lw_all := List.mem_filter.mpr ⟨List.mem_of_getElem? (i := 222) (by decide +kernel), by decide +kernel⟩
theorem q_177 : (Cond.code ⟨"java/lang/Throwable", "<init>", "()V"⟩ prog_16_method_1_code (1 : Nat) (Option.none : Option Jvm.ClassFile.FieldType)) ∈ lw_all := List.mem_filter.mpr ⟨List.mem_of_getElem? (i := 223) (by decide +kernel), by decide +kernel⟩
theorem q_178 : (Cond.methodLink "java/lang/Throwable" (1 : Nat) ⟨"java/lang/Object", "<init>", "()V"⟩) ∈ lw_all := List.mem_filter.mpr ⟨List.mem_of_getElem? (i := 224) (by decide +kernel), by decide +kernel⟩
theorem q_179 : (Cond.fieldLink "java/lang/Throwable" (13 : Nat) "java/lang/Throwable" "UNASSIGNED_STACK" "[Ljava/lang/StackTraceElement;") ∈ lw_all := List.mem_filter.mpr ⟨List.mem_of_getElem? (i := 225) (by decide +kernel), by decide +kernel⟩
theorem q_181 : (Cond.fieldLink "java/lang/Throwable" (20 : Nat) "java/lang/Throwable" "SUPPRESSED_SENTINEL" "Ljava/util/List;") ∈ lw_all := List.mem_filter.mpr ⟨List.mem_of_getElem? (i := 227) (by decide +kernel), by decide +kernel⟩
theorem q_183 : (Cond.methodLink "java/lang/Throwable" (27 : Nat) ⟨"java/lang/Throwable", "fillInStackTrace", "()Ljava/lang/Throwable;"⟩) ∈ lw_all := List.mem_filter.mpr ⟨List.mem_of_getElem? (i := 229) (by decide +kernel), by decide +kernel⟩
theorem q_184 : (Cond.instanceMethod ⟨"java/lang/Throwable", "fillInStackTrace", "()Ljava/lang/Throwable;"⟩) ∈ lw_all := List.mem_filter.mpr ⟨List.mem_of_getElem? (i := 230) (by decide +kernel), by decide +kernel⟩
theorem q_186 : (Cond.selects "java/lang/ArithmeticException" ⟨"java/lang/Throwable", "fillInStackTrace", "()Ljava/lang/Throwable;"⟩ ⟨"java/lang/Throwable", "fillInStackTrace", "()Ljava/lang/Throwable;"⟩) ∈ lw_all := List.mem_filter.mpr ⟨List.mem_of_getElem? (i := 232) (by decide +kernel), by decide +kernel⟩
theorem q_187 : (Cond.selects "java/lang/ArrayIndexOutOfBoundsException" ⟨"java/lang/Throwable", "fillInStackTrace", "()Ljava/lang/Throwable;"⟩ ⟨"java/lang/Throwable", "fillInStackTrace", "()Ljava/lang/Throwable;"⟩) ∈ lw_all := List.mem_filter.mpr ⟨List.mem_of_getElem? (i := 233) (by decide +kernel), by decide +kernel⟩
theorem q_188 : (Cond.selects "java/lang/IllegalStateException" ⟨"java/lang/Throwable", "fillInStackTrace", "()Ljava/lang/Throwable;"⟩ ⟨"java/lang/Throwable", "fillInStackTrace", "()Ljava/lang/Throwable;"⟩) ∈ lw_all := List.mem_filter.mpr ⟨List.mem_of_getElem? (i := 234) (by decide +kernel), by decide +kernel⟩
theorem q_189 : (Cond.selects "java/lang/IndexOutOfBoundsException" ⟨"java/lang/Throwable", "fillInStackTrace", "()Ljava/lang/Throwable;"⟩ ⟨"java/lang/Throwable", "fillInStackTrace", "()Ljava/lang/Throwable;"⟩) ∈ lw_all := List.mem_filter.mpr ⟨List.mem_of_getElem? (i := 235) (by decide +kernel), by decide +kernel⟩
theorem q_190 : (Cond.selects "java/lang/UnsupportedOperationException" ⟨"java/lang/Throwable", "fillInStackTrace", "()Ljava/lang/Throwable;"⟩ ⟨"java/lang/Throwable", "fillInStackTrace", "()Ljava/lang/Throwable;"⟩) ∈ lw_all := List.mem_filter.mpr ⟨List.mem_of_getElem? (i := 236) (by decide +kernel), by decide +kernel⟩
theorem q_191 : (Cond.selects "java/util/NoSuchElementException" ⟨"java/lang/Throwable", "fillInStackTrace", "()Ljava/lang/Throwable;"⟩ ⟨"java/lang/Throwable", "fillInStackTrace", "()Ljava/lang/Throwable;"⟩) ∈ lw_all := List.mem_filter.mpr ⟨List.mem_of_getElem? (i := 237) (by decide +kernel), by decide +kernel⟩
theorem q_193 : (Cond.methodLink "java/lang/Throwable" (202 : Nat) ⟨"java/lang/Throwable", "fillInStackTrace", "(I)Ljava/lang/Throwable;"⟩) ∈ lw_all := List.mem_filter.mpr ⟨List.mem_of_getElem? (i := 239) (by decide +kernel), by decide +kernel⟩
theorem q_195 : (Cond.instanceMethod ⟨"java/lang/Throwable", "fillInStackTrace", "(I)Ljava/lang/Throwable;"⟩) ∈ lw_all := List.mem_filter.mpr ⟨List.mem_of_getElem? (i := 241) (by decide +kernel), by decide +kernel⟩
theorem q_196 : (Cond.instantiable "java/lang/Throwable" (6 : Nat)) ∈ lw_all := List.mem_filter.mpr ⟨List.mem_of_getElem? (i := 242) (by decide +kernel), by decide +kernel⟩
theorem q_199 : (Cond.methodLink "MilkRound" (52 : Nat) ⟨"java/lang/IllegalArgumentException", "<init>", "(Ljava/lang/String;)V"⟩) ∈ lw_all := List.mem_filter.mpr ⟨List.mem_of_getElem? (i := 245) (by decide +kernel), by decide +kernel⟩
theorem q_200 : (Cond.instanceMethod ⟨"java/lang/IllegalArgumentException", "<init>", "(Ljava/lang/String;)V"⟩) ∈ lw_all := List.mem_filter.mpr ⟨List.mem_of_getElem? (i := 246) (by decide +kernel), by decide +kernel⟩
theorem q_201 : (Cond.code ⟨"java/lang/IllegalArgumentException", "<init>", "(Ljava/lang/String;)V"⟩ prog_10_method_2_code (2 : Nat) (Option.none : Option Jvm.ClassFile.FieldType)) ∈ lw_all := List.mem_filter.mpr ⟨List.mem_of_getElem? (i := 247) (by decide +kernel), by decide +kernel⟩
theorem q_202 : (Cond.methodLink "java/lang/IllegalArgumentException" (7 : Nat) ⟨"java/lang/RuntimeException", "<init>", "(Ljava/lang/String;)V"⟩) ∈ lw_all := List.mem_filter.mpr ⟨List.mem_of_getElem? (i := 248) (by decide +kernel), by decide +kernel⟩
theorem q_203 : (Cond.instanceMethod ⟨"java/lang/RuntimeException", "<init>", "(Ljava/lang/String;)V"⟩) ∈ lw_all := List.mem_filter.mpr ⟨List.mem_of_getElem? (i := 249) (by decide +kernel), by decide +kernel⟩
theorem q_204 : (Cond.code ⟨"java/lang/RuntimeException", "<init>", "(Ljava/lang/String;)V"⟩ prog_14_method_2_code (2 : Nat) (Option.none : Option Jvm.ClassFile.FieldType)) ∈ lw_all := List.mem_filter.mpr ⟨List.mem_of_getElem? (i := 250) (by decide +kernel), by decide +kernel⟩
theorem q_205 : (Cond.methodLink "java/lang/RuntimeException" (7 : Nat) ⟨"java/lang/Exception", "<init>", "(Ljava/lang/String;)V"⟩) ∈ lw_all := List.mem_filter.mpr ⟨List.mem_of_getElem? (i := 251) (by decide +kernel), by decide +kernel⟩
theorem q_206 : (Cond.instanceMethod ⟨"java/lang/Exception", "<init>", "(Ljava/lang/String;)V"⟩) ∈ lw_all := List.mem_filter.mpr ⟨List.mem_of_getElem? (i := 252) (by decide +kernel), by decide +kernel⟩
theorem q_207 : (Cond.code ⟨"java/lang/Exception", "<init>", "(Ljava/lang/String;)V"⟩ prog_9_method_2_code (2 : Nat) (Option.none : Option Jvm.ClassFile.FieldType)) ∈ lw_all := List.mem_filter.mpr ⟨List.mem_of_getElem? (i := 253) (by decide +kernel), by decide +kernel⟩
theorem q_208 : (Cond.methodLink "java/lang/Exception" (7 : Nat) ⟨"java/lang/Throwable", "<init>", "(Ljava/lang/String;)V"⟩) ∈ lw_all := List.mem_filter.mpr ⟨List.mem_of_getElem? (i := 254) (by decide +kernel), by decide +kernel⟩
theorem q_209 : (Cond.instanceMethod ⟨"java/lang/Throwable", "<init>", "(Ljava/lang/String;)V"⟩) ∈ lw_all := List.mem_filter.mpr ⟨List.mem_of_getElem? (i := 255) (by decide +kernel), by decide +kernel⟩
theorem q_210 : (Cond.code ⟨"java/lang/Throwable", "<init>", "(Ljava/lang/String;)V"⟩ prog_16_method_2_code (2 : Nat) (Option.none : Option Jvm.ClassFile.FieldType)) ∈ lw_all := List.mem_filter.mpr ⟨List.mem_of_getElem? (i := 256) (by decide +kernel), by decide +kernel⟩
theorem q_211 : (Cond.fieldLink "java/lang/Throwable" (198 : Nat) "java/lang/Throwable" "backtrace" "Ljava/lang/Object;") ∈ lw_all := List.mem_filter.mpr ⟨List.mem_of_getElem? (i := 257) (by decide +kernel), by decide +kernel⟩
theorem q_212 : (Cond.fieldLink "java/lang/Throwable" (31 : Nat) "java/lang/Throwable" "detailMessage" "Ljava/lang/String;") ∈ lw_all := List.mem_filter.mpr ⟨List.mem_of_getElem? (i := 258) (by decide +kernel), by decide +kernel⟩
theorem q_213 : (Cond.fieldLink "java/lang/Throwable" (7 : Nat) "java/lang/Throwable" "cause" "Ljava/lang/Throwable;") ∈ lw_all := List.mem_filter.mpr ⟨List.mem_of_getElem? (i := 259) (by decide +kernel), by decide +kernel⟩
theorem q_214 : (Cond.fieldLink "java/lang/Throwable" (17 : Nat) "java/lang/Throwable" "stackTrace" "[Ljava/lang/StackTraceElement;") ∈ lw_all := List.mem_filter.mpr ⟨List.mem_of_getElem? (i := 260) (by decide +kernel), by decide +kernel⟩
theorem q_215 : (Cond.fieldLink "java/lang/Throwable" (24 : Nat) "java/lang/Throwable" "suppressedExceptions" "Ljava/util/List;") ∈ lw_all := List.mem_filter.mpr ⟨List.mem_of_getElem? (i := 261) (by decide +kernel), by decide +kernel⟩
theorem q_220 : (Cond.lays "java/lang/IllegalArgumentException" "java/lang/Throwable" "depth" "I") ∈ lw_all := List.mem_filter.mpr ⟨List.mem_of_getElem? (i := 266) (by decide +kernel), by decide +kernel⟩
theorem q_224 : (Cond.arrayClass Jvm.ClassFile.FieldType.byte) ∈ lw_all := List.mem_filter.mpr ⟨List.mem_of_getElem? (i := 270) (by decide +kernel), by decide +kernel⟩
theorem q_225 : (Cond.classLink "MilkRound" (58 : Nat) "java/lang/IllegalStateException") ∈ lw_all := List.mem_filter.mpr ⟨List.mem_of_getElem? (i := 271) (by decide +kernel), by decide +kernel⟩
theorem q_226 : (Cond.instantiable "java/lang/IllegalStateException" (6 : Nat)) ∈ lw_all := List.mem_filter.mpr ⟨List.mem_of_getElem? (i := 272) (by decide +kernel), by decide +kernel⟩
theorem q_228 : (Cond.selects "java/lang/IllegalStateException" ⟨"java/lang/Throwable", "fillInStackTrace", "(I)Ljava/lang/Throwable;"⟩ ⟨"java/lang/Throwable", "fillInStackTrace", "(I)Ljava/lang/Throwable;"⟩) ∈ lw_all := List.mem_filter.mpr ⟨List.mem_of_getElem? (i := 274) (by decide +kernel), by decide +kernel⟩
theorem q_229 : (Cond.lays "java/lang/IllegalStateException" "java/lang/Throwable" "cause" "Ljava/lang/Throwable;") ∈ lw_all := List.mem_filter.mpr ⟨List.mem_of_getElem? (i := 275) (by decide +kernel), by decide +kernel⟩
theorem q_230 : (Cond.lays "java/lang/IllegalStateException" "java/lang/Throwable" "stackTrace" "[Ljava/lang/StackTraceElement;") ∈ lw_all := List.mem_filter.mpr ⟨List.mem_of_getElem? (i := 276) (by decide +kernel), by decide +kernel⟩
theorem q_231 : (Cond.lays "java/lang/IllegalStateException" "java/lang/Throwable" "suppressedExceptions" "Ljava/util/List;") ∈ lw_all := List.mem_filter.mpr ⟨List.mem_of_getElem? (i := 277) (by decide +kernel), by decide +kernel⟩
theorem q_232 : (Cond.lays "java/lang/IllegalStateException" "java/lang/Throwable" "detailMessage" "Ljava/lang/String;") ∈ lw_all := List.mem_filter.mpr ⟨List.mem_of_getElem? (i := 278) (by decide +kernel), by decide +kernel⟩
theorem q_233 : (Cond.lays "java/lang/IllegalStateException" "java/lang/Throwable" "backtrace" "Ljava/lang/Object;") ∈ lw_all := List.mem_filter.mpr ⟨List.mem_of_getElem? (i := 279) (by decide +kernel), by decide +kernel⟩
theorem q_235 : (Cond.methodLink "MilkRound" (62 : Nat) ⟨"java/lang/IllegalStateException", "<init>", "(Ljava/lang/String;)V"⟩) ∈ lw_all := List.mem_filter.mpr ⟨List.mem_of_getElem? (i := 281) (by decide +kernel), by decide +kernel⟩
theorem q_236 : (Cond.instanceMethod ⟨"java/lang/IllegalStateException", "<init>", "(Ljava/lang/String;)V"⟩) ∈ lw_all := List.mem_filter.mpr ⟨List.mem_of_getElem? (i := 282) (by decide +kernel), by decide +kernel⟩
theorem q_237 : (Cond.code ⟨"java/lang/IllegalStateException", "<init>", "(Ljava/lang/String;)V"⟩ prog_11_method_2_code (2 : Nat) (Option.none : Option Jvm.ClassFile.FieldType)) ∈ lw_all := List.mem_filter.mpr ⟨List.mem_of_getElem? (i := 283) (by decide +kernel), by decide +kernel⟩
theorem q_238 : (Cond.methodLink "java/lang/IllegalStateException" (7 : Nat) ⟨"java/lang/RuntimeException", "<init>", "(Ljava/lang/String;)V"⟩) ∈ lw_all := List.mem_filter.mpr ⟨List.mem_of_getElem? (i := 284) (by decide +kernel), by decide +kernel⟩
theorem q_239 : (Cond.lays "java/lang/IllegalStateException" "java/lang/Throwable" "depth" "I") ∈ lw_all := List.mem_filter.mpr ⟨List.mem_of_getElem? (i := 285) (by decide +kernel), by decide +kernel⟩
theorem q_243 : (Cond.instanceMethod yX0_add) ∈ lw_all := List.mem_filter.mpr ⟨List.mem_of_getElem? (i := 289) (by decide +kernel), by decide +kernel⟩
theorem q_244 : (Cond.code yX0_add prog_2_method_2_code (2 : Nat) (Option.some Jvm.ClassFile.FieldType.int)) ∈ lw_all := List.mem_filter.mpr ⟨List.mem_of_getElem? (i := 290) (by decide +kernel), by decide +kernel⟩
theorem q_245 : (Cond.methodLink "MilkRoundLaw" (120 : Nat) yL_addCow) ∈ lw_all := List.mem_filter.mpr ⟨List.mem_of_getElem? (i := 291) (by decide +kernel), by decide +kernel⟩
theorem q_246 : (Cond.static yL_addCow) ∈ lw_all := List.mem_filter.mpr ⟨List.mem_of_getElem? (i := 292) (by decide +kernel), by decide +kernel⟩
theorem q_247 : (Cond.codeWith yL_addCow method_4_code (5 : Nat) (Option.some Jvm.ClassFile.FieldType.int) [((0 : Nat), (10 : Nat), (13 : Nat), (21 : Nat)), ((0 : Nat), (10 : Nat), (17 : Nat), (13 : Nat)), ((0 : Nat), (10 : Nat), (21 : Nat), (15 : Nat))]) ∈ lw_all := List.mem_filter.mpr ⟨List.mem_of_getElem? (i := 293) (by decide +kernel), by decide +kernel⟩
theorem q_248 : (Cond.classLink "MilkRoundLaw" (21 : Nat) "java/lang/IndexOutOfBoundsException") ∈ lw_all := List.mem_filter.mpr ⟨List.mem_of_getElem? (i := 294) (by decide +kernel), by decide +kernel⟩
theorem q_249 : (Cond.instantiable "java/lang/ArrayIndexOutOfBoundsException" (6 : Nat)) ∈ lw_all := List.mem_filter.mpr ⟨List.mem_of_getElem? (i := 295) (by decide +kernel), by decide +kernel⟩
theorem q_250 : (Cond.instanceMethod ⟨"java/lang/ArrayIndexOutOfBoundsException", "<init>", "(Ljava/lang/String;)V"⟩) ∈ lw_all := List.mem_filter.mpr ⟨List.mem_of_getElem? (i := 296) (by decide +kernel), by decide +kernel⟩
theorem q_251 : (Cond.code ⟨"java/lang/ArrayIndexOutOfBoundsException", "<init>", "(Ljava/lang/String;)V"⟩ prog_8_method_2_code (2 : Nat) (Option.none : Option Jvm.ClassFile.FieldType)) ∈ lw_all := List.mem_filter.mpr ⟨List.mem_of_getElem? (i := 297) (by decide +kernel), by decide +kernel⟩
theorem q_252 : (Cond.methodLink "java/lang/ArrayIndexOutOfBoundsException" (7 : Nat) ⟨"java/lang/IndexOutOfBoundsException", "<init>", "(Ljava/lang/String;)V"⟩) ∈ lw_all := List.mem_filter.mpr ⟨List.mem_of_getElem? (i := 298) (by decide +kernel), by decide +kernel⟩
theorem q_253 : (Cond.instanceMethod ⟨"java/lang/IndexOutOfBoundsException", "<init>", "(Ljava/lang/String;)V"⟩) ∈ lw_all := List.mem_filter.mpr ⟨List.mem_of_getElem? (i := 299) (by decide +kernel), by decide +kernel⟩
theorem q_254 : (Cond.code ⟨"java/lang/IndexOutOfBoundsException", "<init>", "(Ljava/lang/String;)V"⟩ prog_12_method_2_code (2 : Nat) (Option.none : Option Jvm.ClassFile.FieldType)) ∈ lw_all := List.mem_filter.mpr ⟨List.mem_of_getElem? (i := 300) (by decide +kernel), by decide +kernel⟩
theorem q_255 : (Cond.methodLink "java/lang/IndexOutOfBoundsException" (7 : Nat) ⟨"java/lang/RuntimeException", "<init>", "(Ljava/lang/String;)V"⟩) ∈ lw_all := List.mem_filter.mpr ⟨List.mem_of_getElem? (i := 301) (by decide +kernel), by decide +kernel⟩
theorem q_256 : (Cond.lays "java/lang/ArrayIndexOutOfBoundsException" "java/lang/Throwable" "backtrace" "Ljava/lang/Object;") ∈ lw_all := List.mem_filter.mpr ⟨List.mem_of_getElem? (i := 302) (by decide +kernel), by decide +kernel⟩
theorem q_257 : (Cond.lays "java/lang/ArrayIndexOutOfBoundsException" "java/lang/Throwable" "detailMessage" "Ljava/lang/String;") ∈ lw_all := List.mem_filter.mpr ⟨List.mem_of_getElem? (i := 303) (by decide +kernel), by decide +kernel⟩
theorem q_258 : (Cond.lays "java/lang/ArrayIndexOutOfBoundsException" "java/lang/Throwable" "cause" "Ljava/lang/Throwable;") ∈ lw_all := List.mem_filter.mpr ⟨List.mem_of_getElem? (i := 304) (by decide +kernel), by decide +kernel⟩
theorem q_259 : (Cond.lays "java/lang/ArrayIndexOutOfBoundsException" "java/lang/Throwable" "stackTrace" "[Ljava/lang/StackTraceElement;") ∈ lw_all := List.mem_filter.mpr ⟨List.mem_of_getElem? (i := 305) (by decide +kernel), by decide +kernel⟩
theorem q_260 : (Cond.lays "java/lang/ArrayIndexOutOfBoundsException" "java/lang/Throwable" "depth" "I") ∈ lw_all := List.mem_filter.mpr ⟨List.mem_of_getElem? (i := 306) (by decide +kernel), by decide +kernel⟩
theorem q_261 : (Cond.lays "java/lang/ArrayIndexOutOfBoundsException" "java/lang/Throwable" "suppressedExceptions" "Ljava/util/List;") ∈ lw_all := List.mem_filter.mpr ⟨List.mem_of_getElem? (i := 307) (by decide +kernel), by decide +kernel⟩
theorem q_266 : (Cond.selects "java/lang/ArrayIndexOutOfBoundsException" ⟨"java/lang/Throwable", "fillInStackTrace", "(I)Ljava/lang/Throwable;"⟩ ⟨"java/lang/Throwable", "fillInStackTrace", "(I)Ljava/lang/Throwable;"⟩) ∈ lw_all := List.mem_filter.mpr ⟨List.mem_of_getElem? (i := 312) (by decide +kernel), by decide +kernel⟩
theorem q_267 : (Cond.instantiable "java/lang/String" (4 : Nat)) ∈ lw_all := List.mem_filter.mpr ⟨List.mem_of_getElem? (i := 313) (by decide +kernel), by decide +kernel⟩
theorem q_268 : (Cond.laysFinal "java/lang/String" "java/lang/String" "value" "[B") ∈ lw_all := List.mem_filter.mpr ⟨List.mem_of_getElem? (i := 314) (by decide +kernel), by decide +kernel⟩
theorem q_270 : (Cond.laysFinal "java/lang/String" "java/lang/String" "coder" "B") ∈ lw_all := List.mem_filter.mpr ⟨List.mem_of_getElem? (i := 316) (by decide +kernel), by decide +kernel⟩
theorem q_272 : (Cond.methodLink "MilkRoundLaw" (17 : Nat) yX2_addCow) ∈ lw_all := List.mem_filter.mpr ⟨List.mem_of_getElem? (i := 318) (by decide +kernel), by decide +kernel⟩
theorem q_273 : (Cond.instanceMethod yX2_addCow) ∈ lw_all := List.mem_filter.mpr ⟨List.mem_of_getElem? (i := 319) (by decide +kernel), by decide +kernel⟩
theorem q_274 : (Cond.selects "MilkRound" yX2_addCow yX2_addCow) ∈ lw_all := List.mem_filter.mpr ⟨List.mem_of_getElem? (i := 320) (by decide +kernel), by decide +kernel⟩
theorem q_275 : (Cond.code yX2_addCow prog_1_method_3_code (3 : Nat) (Option.some Jvm.ClassFile.FieldType.int)) ∈ lw_all := List.mem_filter.mpr ⟨List.mem_of_getElem? (i := 321) (by decide +kernel), by decide +kernel⟩
theorem q_276 : (Cond.methodLink "MilkRound" (67 : Nat) yX2_requireFarm) ∈ lw_all := List.mem_filter.mpr ⟨List.mem_of_getElem? (i := 322) (by decide +kernel), by decide +kernel⟩
theorem q_278 : (Cond.instanceMethod yX2_requireFarm) ∈ lw_all := List.mem_filter.mpr ⟨List.mem_of_getElem? (i := 324) (by decide +kernel), by decide +kernel⟩
theorem q_279 : (Cond.code yX2_requireFarm prog_1_method_33_code (2 : Nat) (Option.none : Option Jvm.ClassFile.FieldType)) ∈ lw_all := List.mem_filter.mpr ⟨List.mem_of_getElem? (i := 325) (by decide +kernel), by decide +kernel⟩
theorem q_280 : (Cond.classLink "MilkRound" (227 : Nat) "java/lang/IndexOutOfBoundsException") ∈ lw_all := List.mem_filter.mpr ⟨List.mem_of_getElem? (i := 326) (by decide +kernel), by decide +kernel⟩
theorem q_281 : (Cond.instantiable "java/lang/IndexOutOfBoundsException" (6 : Nat)) ∈ lw_all := List.mem_filter.mpr ⟨List.mem_of_getElem? (i := 327) (by decide +kernel), by decide +kernel⟩
theorem q_283 : (Cond.selects "java/lang/IndexOutOfBoundsException" ⟨"java/lang/Throwable", "fillInStackTrace", "(I)Ljava/lang/Throwable;"⟩ ⟨"java/lang/Throwable", "fillInStackTrace", "(I)Ljava/lang/Throwable;"⟩) ∈ lw_all := List.mem_filter.mpr ⟨List.mem_of_getElem? (i := 329) (by decide +kernel), by decide +kernel⟩
theorem q_284 : (Cond.lays "java/lang/IndexOutOfBoundsException" "java/lang/Throwable" "cause" "Ljava/lang/Throwable;") ∈ lw_all := List.mem_filter.mpr ⟨List.mem_of_getElem? (i := 330) (by decide +kernel), by decide +kernel⟩
theorem q_285 : (Cond.lays "java/lang/IndexOutOfBoundsException" "java/lang/Throwable" "stackTrace" "[Ljava/lang/StackTraceElement;") ∈ lw_all := List.mem_filter.mpr ⟨List.mem_of_getElem? (i := 331) (by decide +kernel), by decide +kernel⟩
theorem q_286 : (Cond.lays "java/lang/IndexOutOfBoundsException" "java/lang/Throwable" "suppressedExceptions" "Ljava/util/List;") ∈ lw_all := List.mem_filter.mpr ⟨List.mem_of_getElem? (i := 332) (by decide +kernel), by decide +kernel⟩
theorem q_287 : (Cond.lays "java/lang/IndexOutOfBoundsException" "java/lang/Throwable" "detailMessage" "Ljava/lang/String;") ∈ lw_all := List.mem_filter.mpr ⟨List.mem_of_getElem? (i := 333) (by decide +kernel), by decide +kernel⟩
theorem q_288 : (Cond.lays "java/lang/IndexOutOfBoundsException" "java/lang/Throwable" "backtrace" "Ljava/lang/Object;") ∈ lw_all := List.mem_filter.mpr ⟨List.mem_of_getElem? (i := 334) (by decide +kernel), by decide +kernel⟩
theorem q_290 : (Cond.methodLink "MilkRound" (231 : Nat) ⟨"java/lang/IndexOutOfBoundsException", "<init>", "(Ljava/lang/String;)V"⟩) ∈ lw_all := List.mem_filter.mpr ⟨List.mem_of_getElem? (i := 336) (by decide +kernel), by decide +kernel⟩
theorem q_291 : (Cond.lays "java/lang/IndexOutOfBoundsException" "java/lang/Throwable" "depth" "I") ∈ lw_all := List.mem_filter.mpr ⟨List.mem_of_getElem? (i := 337) (by decide +kernel), by decide +kernel⟩
theorem q_297 : (Cond.instanceMethod yX0_addCowTo) ∈ lw_all := List.mem_filter.mpr ⟨List.mem_of_getElem? (i := 343) (by decide +kernel), by decide +kernel⟩
theorem q_298 : (Cond.code yX0_addCowTo prog_2_method_3_code (3 : Nat) (Option.some Jvm.ClassFile.FieldType.int)) ∈ lw_all := List.mem_filter.mpr ⟨List.mem_of_getElem? (i := 344) (by decide +kernel), by decide +kernel⟩
theorem q_299 : (Cond.methodLink "MilkRoundLaw" (124 : Nat) yL_milkOf) ∈ lw_all := List.mem_filter.mpr ⟨List.mem_of_getElem? (i := 345) (by decide +kernel), by decide +kernel⟩
theorem q_300 : (Cond.static yL_milkOf) ∈ lw_all := List.mem_filter.mpr ⟨List.mem_of_getElem? (i := 346) (by decide +kernel), by decide +kernel⟩
theorem q_301 : (Cond.codeWith yL_milkOf method_5_code (5 : Nat) (Option.some Jvm.ClassFile.FieldType.int) [((0 : Nat), (10 : Nat), (13 : Nat), (21 : Nat)), ((0 : Nat), (10 : Nat), (17 : Nat), (13 : Nat))]) ∈ lw_all := List.mem_filter.mpr ⟨List.mem_of_getElem? (i := 347) (by decide +kernel), by decide +kernel⟩
theorem q_302 : (Cond.methodLink "MilkRoundLaw" (23 : Nat) yX2_milkOf) ∈ lw_all := List.mem_filter.mpr ⟨List.mem_of_getElem? (i := 348) (by decide +kernel), by decide +kernel⟩
theorem q_303 : (Cond.instanceMethod yX2_milkOf) ∈ lw_all := List.mem_filter.mpr ⟨List.mem_of_getElem? (i := 349) (by decide +kernel), by decide +kernel⟩
theorem q_304 : (Cond.selects "MilkRound" yX2_milkOf yX2_milkOf) ∈ lw_all := List.mem_filter.mpr ⟨List.mem_of_getElem? (i := 350) (by decide +kernel), by decide +kernel⟩
theorem q_305 : (Cond.code yX2_milkOf prog_1_method_4_code (3 : Nat) (Option.some Jvm.ClassFile.FieldType.int)) ∈ lw_all := List.mem_filter.mpr ⟨List.mem_of_getElem? (i := 351) (by decide +kernel), by decide +kernel⟩
theorem q_309 : (Cond.instanceMethod yX0_milkOn) ∈ lw_all := List.mem_filter.mpr ⟨List.mem_of_getElem? (i := 355) (by decide +kernel), by decide +kernel⟩
theorem q_310 : (Cond.code yX0_milkOn prog_2_method_4_code (5 : Nat) (Option.some Jvm.ClassFile.FieldType.int)) ∈ lw_all := List.mem_filter.mpr ⟨List.mem_of_getElem? (i := 356) (by decide +kernel), by decide +kernel⟩
theorem q_311 : (Cond.methodLink "MilkRound$Farms" (30 : Nat) yX0_milkOfCow) ∈ lw_all := List.mem_filter.mpr ⟨List.mem_of_getElem? (i := 357) (by decide +kernel), by decide +kernel⟩
theorem q_312 : (Cond.static yX0_milkOfCow) ∈ lw_all := List.mem_filter.mpr ⟨List.mem_of_getElem? (i := 358) (by decide +kernel), by decide +kernel⟩
theorem q_313 : (Cond.code yX0_milkOfCow prog_2_method_5_code (2 : Nat) (Option.some Jvm.ClassFile.FieldType.int)) ∈ lw_all := List.mem_filter.mpr ⟨List.mem_of_getElem? (i := 359) (by decide +kernel), by decide +kernel⟩
theorem q_314 : (Cond.methodLink "MilkRound$Farms" (34 : Nat) ⟨"java/lang/Math", "abs", "(I)I"⟩) ∈ lw_all := List.mem_filter.mpr ⟨List.mem_of_getElem? (i := 360) (by decide +kernel), by decide +kernel⟩
theorem q_315 : (Cond.static ⟨"java/lang/Math", "abs", "(I)I"⟩) ∈ lw_all := List.mem_filter.mpr ⟨List.mem_of_getElem? (i := 361) (by decide +kernel), by decide +kernel⟩
theorem q_316 : (Cond.code ⟨"java/lang/Math", "abs", "(I)I"⟩ prog_13_method_59_code (1 : Nat) (Option.some Jvm.ClassFile.FieldType.int)) ∈ lw_all := List.mem_filter.mpr ⟨List.mem_of_getElem? (i := 362) (by decide +kernel), by decide +kernel⟩
theorem q_317 : (Cond.methodLink "MilkRound$Farms" (40 : Nat) ⟨"java/lang/Math", "max", "(II)I"⟩) ∈ lw_all := List.mem_filter.mpr ⟨List.mem_of_getElem? (i := 363) (by decide +kernel), by decide +kernel⟩
theorem q_318 : (Cond.static ⟨"java/lang/Math", "max", "(II)I"⟩) ∈ lw_all := List.mem_filter.mpr ⟨List.mem_of_getElem? (i := 364) (by decide +kernel), by decide +kernel⟩
theorem q_319 : (Cond.code ⟨"java/lang/Math", "max", "(II)I"⟩ prog_13_method_65_code (2 : Nat) (Option.some Jvm.ClassFile.FieldType.int)) ∈ lw_all := List.mem_filter.mpr ⟨List.mem_of_getElem? (i := 365) (by decide +kernel), by decide +kernel⟩
theorem q_320 : (Cond.methodLink "MilkRoundLaw" (127 : Nat) yL_inTank) ∈ lw_all := List.mem_filter.mpr ⟨List.mem_of_getElem? (i := 366) (by decide +kernel), by decide +kernel⟩
theorem q_321 : (Cond.static yL_inTank) ∈ lw_all := List.mem_filter.mpr ⟨List.mem_of_getElem? (i := 367) (by decide +kernel), by decide +kernel⟩
theorem q_322 : (Cond.codeWith yL_inTank method_6_code (4 : Nat) (Option.some Jvm.ClassFile.FieldType.int) [((0 : Nat), (9 : Nat), (12 : Nat), (21 : Nat))]) ∈ lw_all := List.mem_filter.mpr ⟨List.mem_of_getElem? (i := 368) (by decide +kernel), by decide +kernel⟩
theorem q_323 : (Cond.methodLink "MilkRoundLaw" (26 : Nat) yX2_inTank) ∈ lw_all := List.mem_filter.mpr ⟨List.mem_of_getElem? (i := 369) (by decide +kernel), by decide +kernel⟩
theorem q_324 : (Cond.instanceMethod yX2_inTank) ∈ lw_all := List.mem_filter.mpr ⟨List.mem_of_getElem? (i := 370) (by decide +kernel), by decide +kernel⟩
theorem q_325 : (Cond.selects "MilkRound" yX2_inTank yX2_inTank) ∈ lw_all := List.mem_filter.mpr ⟨List.mem_of_getElem? (i := 371) (by decide +kernel), by decide +kernel⟩
theorem q_326 : (Cond.code yX2_inTank prog_1_method_5_code (2 : Nat) (Option.some Jvm.ClassFile.FieldType.int)) ∈ lw_all := List.mem_filter.mpr ⟨List.mem_of_getElem? (i := 372) (by decide +kernel), by decide +kernel⟩
theorem q_327 : (Cond.methodLink "MilkRoundLaw" (130 : Nat) yL_pass) ∈ lw_all := List.mem_filter.mpr ⟨List.mem_of_getElem? (i := 373) (by decide +kernel), by decide +kernel⟩
theorem q_328 : (Cond.static yL_pass) ∈ lw_all := List.mem_filter.mpr ⟨List.mem_of_getElem? (i := 374) (by decide +kernel), by decide +kernel⟩
theorem q_329 : (Cond.codeWith yL_pass method_7_code (4 : Nat) (Option.some Jvm.ClassFile.FieldType.int) [((0 : Nat), (9 : Nat), (12 : Nat), (13 : Nat))]) ∈ lw_all := List.mem_filter.mpr ⟨List.mem_of_getElem? (i := 375) (by decide +kernel), by decide +kernel⟩
theorem q_330 : (Cond.methodLink "MilkRoundLaw" (29 : Nat) yX2_pass) ∈ lw_all := List.mem_filter.mpr ⟨List.mem_of_getElem? (i := 376) (by decide +kernel), by decide +kernel⟩
theorem q_331 : (Cond.instanceMethod yX2_pass) ∈ lw_all := List.mem_filter.mpr ⟨List.mem_of_getElem? (i := 377) (by decide +kernel), by decide +kernel⟩
theorem q_332 : (Cond.selects "MilkRound" yX2_pass yX2_pass) ∈ lw_all := List.mem_filter.mpr ⟨List.mem_of_getElem? (i := 378) (by decide +kernel), by decide +kernel⟩
theorem q_333 : (Cond.code yX2_pass prog_1_method_6_code (4 : Nat) (Option.some Jvm.ClassFile.FieldType.int)) ∈ lw_all := List.mem_filter.mpr ⟨List.mem_of_getElem? (i := 379) (by decide +kernel), by decide +kernel⟩
theorem q_337 : (Cond.instanceMethod yX0_milkAll) ∈ lw_all := List.mem_filter.mpr ⟨List.mem_of_getElem? (i := 383) (by decide +kernel), by decide +kernel⟩
theorem q_338 : (Cond.code yX0_milkAll prog_2_method_6_code (6 : Nat) (Option.some Jvm.ClassFile.FieldType.int)) ∈ lw_all := List.mem_filter.mpr ⟨List.mem_of_getElem? (i := 384) (by decide +kernel), by decide +kernel⟩
theorem q_339 : (Cond.methodLink "MilkRound$Farms" (43 : Nat) yX0_milkOn) ∈ lw_all := List.mem_filter.mpr ⟨List.mem_of_getElem? (i := 385) (by decide +kernel), by decide +kernel⟩
theorem q_340 : (Cond.methodLink "MilkRound$Farms" (46 : Nat) ⟨"java/lang/Math", "min", "(II)I"⟩) ∈ lw_all := List.mem_filter.mpr ⟨List.mem_of_getElem? (i := 386) (by decide +kernel), by decide +kernel⟩
theorem q_341 : (Cond.static ⟨"java/lang/Math", "min", "(II)I"⟩) ∈ lw_all := List.mem_filter.mpr ⟨List.mem_of_getElem? (i := 387) (by decide +kernel), by decide +kernel⟩
theorem q_342 : (Cond.code ⟨"java/lang/Math", "min", "(II)I"⟩ prog_13_method_69_code (2 : Nat) (Option.some Jvm.ClassFile.FieldType.int)) ∈ lw_all := List.mem_filter.mpr ⟨List.mem_of_getElem? (i := 388) (by decide +kernel), by decide +kernel⟩
theorem q_343 : (Cond.methodLink "MilkRoundLaw" (137 : Nat) yL_addVat) ∈ lw_all := List.mem_filter.mpr ⟨List.mem_of_getElem? (i := 389) (by decide +kernel), by decide +kernel⟩
theorem q_344 : (Cond.static yL_addVat) ∈ lw_all := List.mem_filter.mpr ⟨List.mem_of_getElem? (i := 390) (by decide +kernel), by decide +kernel⟩
theorem q_345 : (Cond.codeWith yL_addVat method_8_code (4 : Nat) (Option.some Jvm.ClassFile.FieldType.int) [((0 : Nat), (9 : Nat), (12 : Nat), (13 : Nat)), ((0 : Nat), (9 : Nat), (15 : Nat), (15 : Nat))]) ∈ lw_all := List.mem_filter.mpr ⟨List.mem_of_getElem? (i := 391) (by decide +kernel), by decide +kernel⟩
theorem q_346 : (Cond.methodLink "MilkRoundLaw" (32 : Nat) yX2_addVat) ∈ lw_all := List.mem_filter.mpr ⟨List.mem_of_getElem? (i := 392) (by decide +kernel), by decide +kernel⟩
theorem q_347 : (Cond.instanceMethod yX2_addVat) ∈ lw_all := List.mem_filter.mpr ⟨List.mem_of_getElem? (i := 393) (by decide +kernel), by decide +kernel⟩
theorem q_348 : (Cond.selects "MilkRound" yX2_addVat yX2_addVat) ∈ lw_all := List.mem_filter.mpr ⟨List.mem_of_getElem? (i := 394) (by decide +kernel), by decide +kernel⟩
theorem q_349 : (Cond.code yX2_addVat prog_1_method_8_code (2 : Nat) (Option.some Jvm.ClassFile.FieldType.int)) ∈ lw_all := List.mem_filter.mpr ⟨List.mem_of_getElem? (i := 395) (by decide +kernel), by decide +kernel⟩
theorem q_352 : (Cond.methodLink "MilkRoundLaw" (140 : Nat) yL_beginRound) ∈ lw_all := List.mem_filter.mpr ⟨List.mem_of_getElem? (i := 398) (by decide +kernel), by decide +kernel⟩
theorem q_353 : (Cond.static yL_beginRound) ∈ lw_all := List.mem_filter.mpr ⟨List.mem_of_getElem? (i := 399) (by decide +kernel), by decide +kernel⟩
theorem q_354 : (Cond.codeWith yL_beginRound method_9_code (3 : Nat) (Option.some Jvm.ClassFile.FieldType.int) [((0 : Nat), (8 : Nat), (11 : Nat), (15 : Nat))]) ∈ lw_all := List.mem_filter.mpr ⟨List.mem_of_getElem? (i := 400) (by decide +kernel), by decide +kernel⟩
theorem q_355 : (Cond.methodLink "MilkRoundLaw" (35 : Nat) yX2_beginRound) ∈ lw_all := List.mem_filter.mpr ⟨List.mem_of_getElem? (i := 401) (by decide +kernel), by decide +kernel⟩
theorem q_356 : (Cond.instanceMethod yX2_beginRound) ∈ lw_all := List.mem_filter.mpr ⟨List.mem_of_getElem? (i := 402) (by decide +kernel), by decide +kernel⟩
theorem q_357 : (Cond.selects "MilkRound" yX2_beginRound yX2_beginRound) ∈ lw_all := List.mem_filter.mpr ⟨List.mem_of_getElem? (i := 403) (by decide +kernel), by decide +kernel⟩
theorem q_358 : (Cond.code yX2_beginRound prog_1_method_9_code (2 : Nat) (Option.some Jvm.ClassFile.FieldType.int)) ∈ lw_all := List.mem_filter.mpr ⟨List.mem_of_getElem? (i := 404) (by decide +kernel), by decide +kernel⟩
theorem q_360 : (Cond.methodLink "MilkRoundLaw" (144 : Nat) yL_visit) ∈ lw_all := List.mem_filter.mpr ⟨List.mem_of_getElem? (i := 406) (by decide +kernel), by decide +kernel⟩
theorem q_361 : (Cond.static yL_visit) ∈ lw_all := List.mem_filter.mpr ⟨List.mem_of_getElem? (i := 407) (by decide +kernel), by decide +kernel⟩
theorem q_362 : (Cond.codeWith yL_visit method_10_code (4 : Nat) (Option.some Jvm.ClassFile.FieldType.int) [((0 : Nat), (9 : Nat), (12 : Nat), (21 : Nat)), ((0 : Nat), (9 : Nat), (15 : Nat), (15 : Nat))]) ∈ lw_all := List.mem_filter.mpr ⟨List.mem_of_getElem? (i := 408) (by decide +kernel), by decide +kernel⟩
theorem q_363 : (Cond.methodLink "MilkRoundLaw" (39 : Nat) yX2_visit) ∈ lw_all := List.mem_filter.mpr ⟨List.mem_of_getElem? (i := 409) (by decide +kernel), by decide +kernel⟩
theorem q_364 : (Cond.instanceMethod yX2_visit) ∈ lw_all := List.mem_filter.mpr ⟨List.mem_of_getElem? (i := 410) (by decide +kernel), by decide +kernel⟩
theorem q_365 : (Cond.selects "MilkRound" yX2_visit yX2_visit) ∈ lw_all := List.mem_filter.mpr ⟨List.mem_of_getElem? (i := 411) (by decide +kernel), by decide +kernel⟩
theorem q_366 : (Cond.code yX2_visit prog_1_method_10_code (3 : Nat) (Option.some Jvm.ClassFile.FieldType.int)) ∈ lw_all := List.mem_filter.mpr ⟨List.mem_of_getElem? (i := 412) (by decide +kernel), by decide +kernel⟩
theorem q_370 : (Cond.methodLink "MilkRound" (108 : Nat) yX2_inTanker) ∈ lw_all := List.mem_filter.mpr ⟨List.mem_of_getElem? (i := 416) (by decide +kernel), by decide +kernel⟩
theorem q_373 : (Cond.instanceMethod yX0_draw) ∈ lw_all := List.mem_filter.mpr ⟨List.mem_of_getElem? (i := 419) (by decide +kernel), by decide +kernel⟩
theorem q_374 : (Cond.code yX0_draw prog_2_method_7_code (4 : Nat) (Option.some Jvm.ClassFile.FieldType.int)) ∈ lw_all := List.mem_filter.mpr ⟨List.mem_of_getElem? (i := 420) (by decide +kernel), by decide +kernel⟩
theorem q_377 : (Cond.instanceMethod yX1_add) ∈ lw_all := List.mem_filter.mpr ⟨List.mem_of_getElem? (i := 423) (by decide +kernel), by decide +kernel⟩
theorem q_378 : (Cond.code yX1_add prog_3_method_2_code (3 : Nat) (Option.none : Option Jvm.ClassFile.FieldType)) ∈ lw_all := List.mem_filter.mpr ⟨List.mem_of_getElem? (i := 424) (by decide +kernel), by decide +kernel⟩
theorem q_379 : (Cond.methodLink "MilkRoundLaw" (147 : Nat) yL_endRound) ∈ lw_all := List.mem_filter.mpr ⟨List.mem_of_getElem? (i := 425) (by decide +kernel), by decide +kernel⟩
theorem q_380 : (Cond.static yL_endRound) ∈ lw_all := List.mem_filter.mpr ⟨List.mem_of_getElem? (i := 426) (by decide +kernel), by decide +kernel⟩
theorem q_381 : (Cond.codeWith yL_endRound method_11_code (4 : Nat) (Option.some Jvm.ClassFile.FieldType.int) [((0 : Nat), (9 : Nat), (12 : Nat), (21 : Nat)), ((0 : Nat), (9 : Nat), (15 : Nat), (15 : Nat)), ((0 : Nat), (9 : Nat), (18 : Nat), (45 : Nat))]) ∈ lw_all := List.mem_filter.mpr ⟨List.mem_of_getElem? (i := 427) (by decide +kernel), by decide +kernel⟩
theorem q_382 : (Cond.classLink "MilkRoundLaw" (45 : Nat) "java/lang/UnsupportedOperationException") ∈ lw_all := List.mem_filter.mpr ⟨List.mem_of_getElem? (i := 428) (by decide +kernel), by decide +kernel⟩
theorem q_383 : (Cond.methodLink "MilkRoundLaw" (42 : Nat) yX2_endRound) ∈ lw_all := List.mem_filter.mpr ⟨List.mem_of_getElem? (i := 429) (by decide +kernel), by decide +kernel⟩
theorem q_384 : (Cond.instanceMethod yX2_endRound) ∈ lw_all := List.mem_filter.mpr ⟨List.mem_of_getElem? (i := 430) (by decide +kernel), by decide +kernel⟩
theorem q_385 : (Cond.selects "MilkRound" yX2_endRound yX2_endRound) ∈ lw_all := List.mem_filter.mpr ⟨List.mem_of_getElem? (i := 431) (by decide +kernel), by decide +kernel⟩
theorem q_386 : (Cond.code yX2_endRound prog_1_method_11_code (2 : Nat) (Option.some Jvm.ClassFile.FieldType.int)) ∈ lw_all := List.mem_filter.mpr ⟨List.mem_of_getElem? (i := 432) (by decide +kernel), by decide +kernel⟩
theorem q_387 : (Cond.methodLink "MilkRound" (118 : Nat) yX2_requireVat) ∈ lw_all := List.mem_filter.mpr ⟨List.mem_of_getElem? (i := 433) (by decide +kernel), by decide +kernel⟩
theorem q_389 : (Cond.instanceMethod yX2_requireVat) ∈ lw_all := List.mem_filter.mpr ⟨List.mem_of_getElem? (i := 435) (by decide +kernel), by decide +kernel⟩
theorem q_390 : (Cond.code yX2_requireVat prog_1_method_34_code (2 : Nat) (Option.none : Option Jvm.ClassFile.FieldType)) ∈ lw_all := List.mem_filter.mpr ⟨List.mem_of_getElem? (i := 436) (by decide +kernel), by decide +kernel⟩
theorem q_392 : (Cond.methodLink "MilkRound" (121 : Nat) yX2_freeRoom) ∈ lw_all := List.mem_filter.mpr ⟨List.mem_of_getElem? (i := 438) (by decide +kernel), by decide +kernel⟩
theorem q_394 : (Cond.instanceMethod yX2_freeRoom) ∈ lw_all := List.mem_filter.mpr ⟨List.mem_of_getElem? (i := 440) (by decide +kernel), by decide +kernel⟩
theorem q_395 : (Cond.code yX2_freeRoom prog_1_method_32_code (2 : Nat) (Option.some Jvm.ClassFile.FieldType.int)) ∈ lw_all := List.mem_filter.mpr ⟨List.mem_of_getElem? (i := 441) (by decide +kernel), by decide +kernel⟩
theorem q_396 : (Cond.methodLink "MilkRound" (139 : Nat) yX2_inVat) ∈ lw_all := List.mem_filter.mpr ⟨List.mem_of_getElem? (i := 442) (by decide +kernel), by decide +kernel⟩
theorem q_397 : (Cond.instanceMethod yX2_inVat) ∈ lw_all := List.mem_filter.mpr ⟨List.mem_of_getElem? (i := 443) (by decide +kernel), by decide +kernel⟩
theorem q_398 : (Cond.selects "MilkRound" yX2_inVat yX2_inVat) ∈ lw_all := List.mem_filter.mpr ⟨List.mem_of_getElem? (i := 444) (by decide +kernel), by decide +kernel⟩
theorem q_399 : (Cond.code yX2_inVat prog_1_method_13_code (2 : Nat) (Option.some Jvm.ClassFile.FieldType.int)) ∈ lw_all := List.mem_filter.mpr ⟨List.mem_of_getElem? (i := 445) (by decide +kernel), by decide +kernel⟩
theorem q_400 : (Cond.classLink "MilkRound" (124 : Nat) "java/lang/UnsupportedOperationException") ∈ lw_all := List.mem_filter.mpr ⟨List.mem_of_getElem? (i := 446) (by decide +kernel), by decide +kernel⟩
theorem q_401 : (Cond.instantiable "java/lang/UnsupportedOperationException" (6 : Nat)) ∈ lw_all := List.mem_filter.mpr ⟨List.mem_of_getElem? (i := 447) (by decide +kernel), by decide +kernel⟩
theorem q_403 : (Cond.selects "java/lang/UnsupportedOperationException" ⟨"java/lang/Throwable", "fillInStackTrace", "(I)Ljava/lang/Throwable;"⟩ ⟨"java/lang/Throwable", "fillInStackTrace", "(I)Ljava/lang/Throwable;"⟩) ∈ lw_all := List.mem_filter.mpr ⟨List.mem_of_getElem? (i := 449) (by decide +kernel), by decide +kernel⟩
theorem q_404 : (Cond.lays "java/lang/UnsupportedOperationException" "java/lang/Throwable" "cause" "Ljava/lang/Throwable;") ∈ lw_all := List.mem_filter.mpr ⟨List.mem_of_getElem? (i := 450) (by decide +kernel), by decide +kernel⟩
theorem q_405 : (Cond.lays "java/lang/UnsupportedOperationException" "java/lang/Throwable" "stackTrace" "[Ljava/lang/StackTraceElement;") ∈ lw_all := List.mem_filter.mpr ⟨List.mem_of_getElem? (i := 451) (by decide +kernel), by decide +kernel⟩
theorem q_406 : (Cond.lays "java/lang/UnsupportedOperationException" "java/lang/Throwable" "suppressedExceptions" "Ljava/util/List;") ∈ lw_all := List.mem_filter.mpr ⟨List.mem_of_getElem? (i := 452) (by decide +kernel), by decide +kernel⟩
theorem q_407 : (Cond.lays "java/lang/UnsupportedOperationException" "java/lang/Throwable" "detailMessage" "Ljava/lang/String;") ∈ lw_all := List.mem_filter.mpr ⟨List.mem_of_getElem? (i := 453) (by decide +kernel), by decide +kernel⟩
theorem q_408 : (Cond.lays "java/lang/UnsupportedOperationException" "java/lang/Throwable" "backtrace" "Ljava/lang/Object;") ∈ lw_all := List.mem_filter.mpr ⟨List.mem_of_getElem? (i := 454) (by decide +kernel), by decide +kernel⟩
theorem q_410 : (Cond.methodLink "MilkRound" (128 : Nat) ⟨"java/lang/UnsupportedOperationException", "<init>", "(Ljava/lang/String;)V"⟩) ∈ lw_all := List.mem_filter.mpr ⟨List.mem_of_getElem? (i := 456) (by decide +kernel), by decide +kernel⟩
theorem q_411 : (Cond.instanceMethod ⟨"java/lang/UnsupportedOperationException", "<init>", "(Ljava/lang/String;)V"⟩) ∈ lw_all := List.mem_filter.mpr ⟨List.mem_of_getElem? (i := 457) (by decide +kernel), by decide +kernel⟩
theorem q_412 : (Cond.code ⟨"java/lang/UnsupportedOperationException", "<init>", "(Ljava/lang/String;)V"⟩ prog_17_method_2_code (2 : Nat) (Option.none : Option Jvm.ClassFile.FieldType)) ∈ lw_all := List.mem_filter.mpr ⟨List.mem_of_getElem? (i := 458) (by decide +kernel), by decide +kernel⟩
theorem q_413 : (Cond.methodLink "java/lang/UnsupportedOperationException" (7 : Nat) ⟨"java/lang/RuntimeException", "<init>", "(Ljava/lang/String;)V"⟩) ∈ lw_all := List.mem_filter.mpr ⟨List.mem_of_getElem? (i := 459) (by decide +kernel), by decide +kernel⟩
theorem q_414 : (Cond.lays "java/lang/UnsupportedOperationException" "java/lang/Throwable" "depth" "I") ∈ lw_all := List.mem_filter.mpr ⟨List.mem_of_getElem? (i := 460) (by decide +kernel), by decide +kernel⟩
theorem q_418 : (Cond.instanceMethod yX1_countIn) ∈ lw_all := List.mem_filter.mpr ⟨List.mem_of_getElem? (i := 464) (by decide +kernel), by decide +kernel⟩
theorem q_419 : (Cond.code yX1_countIn prog_3_method_5_code (5 : Nat) (Option.some Jvm.ClassFile.FieldType.int)) ∈ lw_all := List.mem_filter.mpr ⟨List.mem_of_getElem? (i := 465) (by decide +kernel), by decide +kernel⟩
theorem q_423 : (Cond.instanceMethod yX1_move) ∈ lw_all := List.mem_filter.mpr ⟨List.mem_of_getElem? (i := 469) (by decide +kernel), by decide +kernel⟩
theorem q_424 : (Cond.code yX1_move prog_3_method_4_code (6 : Nat) (Option.none : Option Jvm.ClassFile.FieldType)) ∈ lw_all := List.mem_filter.mpr ⟨List.mem_of_getElem? (i := 470) (by decide +kernel), by decide +kernel⟩
theorem q_425 : (Cond.methodLink "MilkRoundLaw" (154 : Nat) yL_inVat) ∈ lw_all := List.mem_filter.mpr ⟨List.mem_of_getElem? (i := 471) (by decide +kernel), by decide +kernel⟩
theorem q_426 : (Cond.static yL_inVat) ∈ lw_all := List.mem_filter.mpr ⟨List.mem_of_getElem? (i := 472) (by decide +kernel), by decide +kernel⟩
theorem q_427 : (Cond.codeWith yL_inVat method_12_code (4 : Nat) (Option.some Jvm.ClassFile.FieldType.int) [((0 : Nat), (9 : Nat), (12 : Nat), (21 : Nat))]) ∈ lw_all := List.mem_filter.mpr ⟨List.mem_of_getElem? (i := 473) (by decide +kernel), by decide +kernel⟩
theorem q_428 : (Cond.methodLink "MilkRoundLaw" (47 : Nat) yX2_inVat) ∈ lw_all := List.mem_filter.mpr ⟨List.mem_of_getElem? (i := 474) (by decide +kernel), by decide +kernel⟩
theorem q_429 : (Cond.methodLink "MilkRoundLaw" (157 : Nat) yL_bestVat) ∈ lw_all := List.mem_filter.mpr ⟨List.mem_of_getElem? (i := 475) (by decide +kernel), by decide +kernel⟩
theorem q_430 : (Cond.static yL_bestVat) ∈ lw_all := List.mem_filter.mpr ⟨List.mem_of_getElem? (i := 476) (by decide +kernel), by decide +kernel⟩
theorem q_431 : (Cond.codeWith yL_bestVat method_13_code (3 : Nat) (Option.some Jvm.ClassFile.FieldType.int) [((0 : Nat), (8 : Nat), (11 : Nat), (53 : Nat))]) ∈ lw_all := List.mem_filter.mpr ⟨List.mem_of_getElem? (i := 477) (by decide +kernel), by decide +kernel⟩
theorem q_432 : (Cond.classLink "MilkRoundLaw" (53 : Nat) "java/util/NoSuchElementException") ∈ lw_all := List.mem_filter.mpr ⟨List.mem_of_getElem? (i := 478) (by decide +kernel), by decide +kernel⟩
theorem q_433 : (Cond.methodLink "MilkRoundLaw" (50 : Nat) yX2_bestVat) ∈ lw_all := List.mem_filter.mpr ⟨List.mem_of_getElem? (i := 479) (by decide +kernel), by decide +kernel⟩
theorem q_434 : (Cond.instanceMethod yX2_bestVat) ∈ lw_all := List.mem_filter.mpr ⟨List.mem_of_getElem? (i := 480) (by decide +kernel), by decide +kernel⟩
theorem q_435 : (Cond.selects "MilkRound" yX2_bestVat yX2_bestVat) ∈ lw_all := List.mem_filter.mpr ⟨List.mem_of_getElem? (i := 481) (by decide +kernel), by decide +kernel⟩
theorem q_436 : (Cond.code yX2_bestVat prog_1_method_14_code (6 : Nat) (Option.some Jvm.ClassFile.FieldType.int)) ∈ lw_all := List.mem_filter.mpr ⟨List.mem_of_getElem? (i := 482) (by decide +kernel), by decide +kernel⟩
theorem q_437 : (Cond.classLink "MilkRound" (145 : Nat) "java/util/NoSuchElementException") ∈ lw_all := List.mem_filter.mpr ⟨List.mem_of_getElem? (i := 483) (by decide +kernel), by decide +kernel⟩
theorem q_438 : (Cond.instantiable "java/util/NoSuchElementException" (6 : Nat)) ∈ lw_all := List.mem_filter.mpr ⟨List.mem_of_getElem? (i := 484) (by decide +kernel), by decide +kernel⟩
theorem q_440 : (Cond.selects "java/util/NoSuchElementException" ⟨"java/lang/Throwable", "fillInStackTrace", "(I)Ljava/lang/Throwable;"⟩ ⟨"java/lang/Throwable", "fillInStackTrace", "(I)Ljava/lang/Throwable;"⟩) ∈ lw_all := List.mem_filter.mpr ⟨List.mem_of_getElem? (i := 486) (by decide +kernel), by decide +kernel⟩
theorem q_441 : (Cond.lays "java/util/NoSuchElementException" "java/lang/Throwable" "cause" "Ljava/lang/Throwable;") ∈ lw_all := List.mem_filter.mpr ⟨List.mem_of_getElem? (i := 487) (by decide +kernel), by decide +kernel⟩
theorem q_442 : (Cond.lays "java/util/NoSuchElementException" "java/lang/Throwable" "stackTrace" "[Ljava/lang/StackTraceElement;") ∈ lw_all := List.mem_filter.mpr ⟨List.mem_of_getElem? (i := 488) (by decide +kernel), by decide +kernel⟩
theorem q_443 : (Cond.lays "java/util/NoSuchElementException" "java/lang/Throwable" "suppressedExceptions" "Ljava/util/List;") ∈ lw_all := List.mem_filter.mpr ⟨List.mem_of_getElem? (i := 489) (by decide +kernel), by decide +kernel⟩
theorem q_444 : (Cond.lays "java/util/NoSuchElementException" "java/lang/Throwable" "detailMessage" "Ljava/lang/String;") ∈ lw_all := List.mem_filter.mpr ⟨List.mem_of_getElem? (i := 490) (by decide +kernel), by decide +kernel⟩
theorem q_445 : (Cond.lays "java/util/NoSuchElementException" "java/lang/Throwable" "backtrace" "Ljava/lang/Object;") ∈ lw_all := List.mem_filter.mpr ⟨List.mem_of_getElem? (i := 491) (by decide +kernel), by decide +kernel⟩
theorem q_447 : (Cond.methodLink "MilkRound" (149 : Nat) ⟨"java/util/NoSuchElementException", "<init>", "(Ljava/lang/String;)V"⟩) ∈ lw_all := List.mem_filter.mpr ⟨List.mem_of_getElem? (i := 493) (by decide +kernel), by decide +kernel⟩
theorem q_448 : (Cond.instanceMethod ⟨"java/util/NoSuchElementException", "<init>", "(Ljava/lang/String;)V"⟩) ∈ lw_all := List.mem_filter.mpr ⟨List.mem_of_getElem? (i := 494) (by decide +kernel), by decide +kernel⟩
theorem q_449 : (Cond.code ⟨"java/util/NoSuchElementException", "<init>", "(Ljava/lang/String;)V"⟩ prog_18_method_4_code (2 : Nat) (Option.none : Option Jvm.ClassFile.FieldType)) ∈ lw_all := List.mem_filter.mpr ⟨List.mem_of_getElem? (i := 495) (by decide +kernel), by decide +kernel⟩
theorem q_450 : (Cond.methodLink "java/util/NoSuchElementException" (13 : Nat) ⟨"java/lang/RuntimeException", "<init>", "(Ljava/lang/String;)V"⟩) ∈ lw_all := List.mem_filter.mpr ⟨List.mem_of_getElem? (i := 496) (by decide +kernel), by decide +kernel⟩
theorem q_451 : (Cond.lays "java/util/NoSuchElementException" "java/lang/Throwable" "depth" "I") ∈ lw_all := List.mem_filter.mpr ⟨List.mem_of_getElem? (i := 497) (by decide +kernel), by decide +kernel⟩
theorem q_453 : (Cond.methodLink "MilkRoundLaw" (160 : Nat) yL_close) ∈ lw_all := List.mem_filter.mpr ⟨List.mem_of_getElem? (i := 499) (by decide +kernel), by decide +kernel⟩
theorem q_454 : (Cond.static yL_close) ∈ lw_all := List.mem_filter.mpr ⟨List.mem_of_getElem? (i := 500) (by decide +kernel), by decide +kernel⟩
theorem q_455 : (Cond.codeWith yL_close method_14_code (4 : Nat) (Option.some Jvm.ClassFile.FieldType.int) [((0 : Nat), (9 : Nat), (12 : Nat), (21 : Nat)), ((0 : Nat), (9 : Nat), (15 : Nat), (45 : Nat)), ((0 : Nat), (9 : Nat), (18 : Nat), (15 : Nat))]) ∈ lw_all := List.mem_filter.mpr ⟨List.mem_of_getElem? (i := 501) (by decide +kernel), by decide +kernel⟩
theorem q_456 : (Cond.methodLink "MilkRoundLaw" (55 : Nat) yX2_close) ∈ lw_all := List.mem_filter.mpr ⟨List.mem_of_getElem? (i := 502) (by decide +kernel), by decide +kernel⟩
theorem q_457 : (Cond.instanceMethod yX2_close) ∈ lw_all := List.mem_filter.mpr ⟨List.mem_of_getElem? (i := 503) (by decide +kernel), by decide +kernel⟩
theorem q_458 : (Cond.selects "MilkRound" yX2_close yX2_close) ∈ lw_all := List.mem_filter.mpr ⟨List.mem_of_getElem? (i := 504) (by decide +kernel), by decide +kernel⟩
theorem q_459 : (Cond.code yX2_close prog_1_method_15_code (3 : Nat) (Option.some Jvm.ClassFile.FieldType.int)) ∈ lw_all := List.mem_filter.mpr ⟨List.mem_of_getElem? (i := 505) (by decide +kernel), by decide +kernel⟩
theorem q_464 : (Cond.instanceMethod yX1_settle) ∈ lw_all := List.mem_filter.mpr ⟨List.mem_of_getElem? (i := 510) (by decide +kernel), by decide +kernel⟩
theorem q_465 : (Cond.code yX1_settle prog_3_method_19_code (3 : Nat) (Option.none : Option Jvm.ClassFile.FieldType)) ∈ lw_all := List.mem_filter.mpr ⟨List.mem_of_getElem? (i := 511) (by decide +kernel), by decide +kernel⟩
theorem q_466 : (Cond.methodLink "MilkRound$Samples" (64 : Nat) yX1_isGraded) ∈ lw_all := List.mem_filter.mpr ⟨List.mem_of_getElem? (i := 512) (by decide +kernel), by decide +kernel⟩
theorem q_468 : (Cond.instanceMethod yX1_isGraded) ∈ lw_all := List.mem_filter.mpr ⟨List.mem_of_getElem? (i := 514) (by decide +kernel), by decide +kernel⟩
theorem q_469 : (Cond.code yX1_isGraded prog_3_method_10_code (3 : Nat) (Option.some Jvm.ClassFile.FieldType.boolean)) ∈ lw_all := List.mem_filter.mpr ⟨List.mem_of_getElem? (i := 515) (by decide +kernel), by decide +kernel⟩
theorem q_470 : (Cond.methodLink "MilkRound$Samples" (42 : Nat) yX1_spoiltLitres) ∈ lw_all := List.mem_filter.mpr ⟨List.mem_of_getElem? (i := 516) (by decide +kernel), by decide +kernel⟩
theorem q_472 : (Cond.instanceMethod yX1_spoiltLitres) ∈ lw_all := List.mem_filter.mpr ⟨List.mem_of_getElem? (i := 518) (by decide +kernel), by decide +kernel⟩
theorem q_473 : (Cond.code yX1_spoiltLitres prog_3_method_13_code (4 : Nat) (Option.some Jvm.ClassFile.FieldType.int)) ∈ lw_all := List.mem_filter.mpr ⟨List.mem_of_getElem? (i := 519) (by decide +kernel), by decide +kernel⟩
theorem q_474 : (Cond.methodLink "MilkRound$Samples" (46 : Nat) yX1_isSpoiltIn) ∈ lw_all := List.mem_filter.mpr ⟨List.mem_of_getElem? (i := 520) (by decide +kernel), by decide +kernel⟩
theorem q_476 : (Cond.instanceMethod yX1_isSpoiltIn) ∈ lw_all := List.mem_filter.mpr ⟨List.mem_of_getElem? (i := 522) (by decide +kernel), by decide +kernel⟩
theorem q_477 : (Cond.code yX1_isSpoiltIn prog_3_method_12_code (3 : Nat) (Option.some Jvm.ClassFile.FieldType.boolean)) ∈ lw_all := List.mem_filter.mpr ⟨List.mem_of_getElem? (i := 523) (by decide +kernel), by decide +kernel⟩
theorem q_478 : (Cond.methodLink "MilkRound$Samples" (67 : Nat) yX1_settleBlame) ∈ lw_all := List.mem_filter.mpr ⟨List.mem_of_getElem? (i := 524) (by decide +kernel), by decide +kernel⟩
theorem q_480 : (Cond.instanceMethod yX1_settleBlame) ∈ lw_all := List.mem_filter.mpr ⟨List.mem_of_getElem? (i := 526) (by decide +kernel), by decide +kernel⟩
theorem q_481 : (Cond.code yX1_settleBlame prog_3_method_21_code (6 : Nat) (Option.none : Option Jvm.ClassFile.FieldType)) ∈ lw_all := List.mem_filter.mpr ⟨List.mem_of_getElem? (i := 527) (by decide +kernel), by decide +kernel⟩
theorem q_482 : (Cond.methodLink "MilkRound$Samples" (75 : Nat) yX1_lossOf) ∈ lw_all := List.mem_filter.mpr ⟨List.mem_of_getElem? (i := 528) (by decide +kernel), by decide +kernel⟩
theorem q_484 : (Cond.instanceMethod yX1_lossOf) ∈ lw_all := List.mem_filter.mpr ⟨List.mem_of_getElem? (i := 530) (by decide +kernel), by decide +kernel⟩
theorem q_485 : (Cond.code yX1_lossOf prog_3_method_18_code (2 : Nat) (Option.some Jvm.ClassFile.FieldType.int)) ∈ lw_all := List.mem_filter.mpr ⟨List.mem_of_getElem? (i := 531) (by decide +kernel), by decide +kernel⟩
theorem q_486 : (Cond.methodLink "MilkRound$Samples" (57 : Nat) yX1_isSpoilt) ∈ lw_all := List.mem_filter.mpr ⟨List.mem_of_getElem? (i := 532) (by decide +kernel), by decide +kernel⟩
theorem q_488 : (Cond.instanceMethod yX1_isSpoilt) ∈ lw_all := List.mem_filter.mpr ⟨List.mem_of_getElem? (i := 534) (by decide +kernel), by decide +kernel⟩
theorem q_489 : (Cond.code yX1_isSpoilt prog_3_method_11_code (2 : Nat) (Option.some Jvm.ClassFile.FieldType.boolean)) ∈ lw_all := List.mem_filter.mpr ⟨List.mem_of_getElem? (i := 535) (by decide +kernel), by decide +kernel⟩
theorem q_490 : (Cond.methodLink "MilkRound$Samples" (61 : Nat) yX1_valueOf) ∈ lw_all := List.mem_filter.mpr ⟨List.mem_of_getElem? (i := 536) (by decide +kernel), by decide +kernel⟩
theorem q_492 : (Cond.instanceMethod yX1_valueOf) ∈ lw_all := List.mem_filter.mpr ⟨List.mem_of_getElem? (i := 538) (by decide +kernel), by decide +kernel⟩
theorem q_493 : (Cond.code yX1_valueOf prog_3_method_16_code (4 : Nat) (Option.some Jvm.ClassFile.FieldType.int)) ∈ lw_all := List.mem_filter.mpr ⟨List.mem_of_getElem? (i := 539) (by decide +kernel), by decide +kernel⟩
theorem q_494 : (Cond.methodLink "MilkRound$Samples" (54 : Nat) yX1_valueOfSample) ∈ lw_all := List.mem_filter.mpr ⟨List.mem_of_getElem? (i := 540) (by decide +kernel), by decide +kernel⟩
theorem q_496 : (Cond.instanceMethod yX1_valueOfSample) ∈ lw_all := List.mem_filter.mpr ⟨List.mem_of_getElem? (i := 542) (by decide +kernel), by decide +kernel⟩
theorem q_497 : (Cond.code yX1_valueOfSample prog_3_method_15_code (2 : Nat) (Option.some Jvm.ClassFile.FieldType.int)) ∈ lw_all := List.mem_filter.mpr ⟨List.mem_of_getElem? (i := 543) (by decide +kernel), by decide +kernel⟩
theorem q_498 : (Cond.methodLink "MilkRound$Samples" (50 : Nat) yX1_centsALitre) ∈ lw_all := List.mem_filter.mpr ⟨List.mem_of_getElem? (i := 544) (by decide +kernel), by decide +kernel⟩
theorem q_499 : (Cond.static yX1_centsALitre) ∈ lw_all := List.mem_filter.mpr ⟨List.mem_of_getElem? (i := 545) (by decide +kernel), by decide +kernel⟩
theorem q_500 : (Cond.code yX1_centsALitre prog_3_method_14_code (1 : Nat) (Option.some Jvm.ClassFile.FieldType.int)) ∈ lw_all := List.mem_filter.mpr ⟨List.mem_of_getElem? (i := 546) (by decide +kernel), by decide +kernel⟩
theorem q_501 : (Cond.methodLink "MilkRound$Samples" (71 : Nat) yX1_settlePay) ∈ lw_all := List.mem_filter.mpr ⟨List.mem_of_getElem? (i := 547) (by decide +kernel), by decide +kernel⟩
theorem q_503 : (Cond.instanceMethod yX1_settlePay) ∈ lw_all := List.mem_filter.mpr ⟨List.mem_of_getElem? (i := 549) (by decide +kernel), by decide +kernel⟩
theorem q_504 : (Cond.code yX1_settlePay prog_3_method_20_code (3 : Nat) (Option.none : Option Jvm.ClassFile.FieldType)) ∈ lw_all := List.mem_filter.mpr ⟨List.mem_of_getElem? (i := 550) (by decide +kernel), by decide +kernel⟩
theorem q_505 : (Cond.methodLink "MilkRoundLaw" (167 : Nat) yL_farmOf) ∈ lw_all := List.mem_filter.mpr ⟨List.mem_of_getElem? (i := 551) (by decide +kernel), by decide +kernel⟩
theorem q_506 : (Cond.static yL_farmOf) ∈ lw_all := List.mem_filter.mpr ⟨List.mem_of_getElem? (i := 552) (by decide +kernel), by decide +kernel⟩
theorem q_507 : (Cond.codeWith yL_farmOf method_15_code (4 : Nat) (Option.some Jvm.ClassFile.FieldType.int) [((0 : Nat), (9 : Nat), (12 : Nat), (21 : Nat))]) ∈ lw_all := List.mem_filter.mpr ⟨List.mem_of_getElem? (i := 553) (by decide +kernel), by decide +kernel⟩
theorem q_508 : (Cond.methodLink "MilkRoundLaw" (58 : Nat) yX2_farmOf) ∈ lw_all := List.mem_filter.mpr ⟨List.mem_of_getElem? (i := 554) (by decide +kernel), by decide +kernel⟩
theorem q_509 : (Cond.instanceMethod yX2_farmOf) ∈ lw_all := List.mem_filter.mpr ⟨List.mem_of_getElem? (i := 555) (by decide +kernel), by decide +kernel⟩
theorem q_510 : (Cond.selects "MilkRound" yX2_farmOf yX2_farmOf) ∈ lw_all := List.mem_filter.mpr ⟨List.mem_of_getElem? (i := 556) (by decide +kernel), by decide +kernel⟩
theorem q_511 : (Cond.code yX2_farmOf prog_1_method_17_code (2 : Nat) (Option.some Jvm.ClassFile.FieldType.int)) ∈ lw_all := List.mem_filter.mpr ⟨List.mem_of_getElem? (i := 557) (by decide +kernel), by decide +kernel⟩
theorem q_512 : (Cond.methodLink "MilkRound" (157 : Nat) yX2_requireSample) ∈ lw_all := List.mem_filter.mpr ⟨List.mem_of_getElem? (i := 558) (by decide +kernel), by decide +kernel⟩
theorem q_514 : (Cond.instanceMethod yX2_requireSample) ∈ lw_all := List.mem_filter.mpr ⟨List.mem_of_getElem? (i := 560) (by decide +kernel), by decide +kernel⟩
theorem q_515 : (Cond.code yX2_requireSample prog_1_method_35_code (2 : Nat) (Option.none : Option Jvm.ClassFile.FieldType)) ∈ lw_all := List.mem_filter.mpr ⟨List.mem_of_getElem? (i := 561) (by decide +kernel), by decide +kernel⟩
theorem q_517 : (Cond.methodLink "MilkRoundLaw" (170 : Nat) yL_litres) ∈ lw_all := List.mem_filter.mpr ⟨List.mem_of_getElem? (i := 563) (by decide +kernel), by decide +kernel⟩
theorem q_518 : (Cond.static yL_litres) ∈ lw_all := List.mem_filter.mpr ⟨List.mem_of_getElem? (i := 564) (by decide +kernel), by decide +kernel⟩
theorem q_519 : (Cond.codeWith yL_litres method_16_code (4 : Nat) (Option.some Jvm.ClassFile.FieldType.int) [((0 : Nat), (9 : Nat), (12 : Nat), (21 : Nat))]) ∈ lw_all := List.mem_filter.mpr ⟨List.mem_of_getElem? (i := 565) (by decide +kernel), by decide +kernel⟩
theorem q_520 : (Cond.methodLink "MilkRoundLaw" (61 : Nat) yX2_litres) ∈ lw_all := List.mem_filter.mpr ⟨List.mem_of_getElem? (i := 566) (by decide +kernel), by decide +kernel⟩
theorem q_521 : (Cond.instanceMethod yX2_litres) ∈ lw_all := List.mem_filter.mpr ⟨List.mem_of_getElem? (i := 567) (by decide +kernel), by decide +kernel⟩
theorem q_522 : (Cond.selects "MilkRound" yX2_litres yX2_litres) ∈ lw_all := List.mem_filter.mpr ⟨List.mem_of_getElem? (i := 568) (by decide +kernel), by decide +kernel⟩
theorem q_523 : (Cond.code yX2_litres prog_1_method_18_code (2 : Nat) (Option.some Jvm.ClassFile.FieldType.int)) ∈ lw_all := List.mem_filter.mpr ⟨List.mem_of_getElem? (i := 569) (by decide +kernel), by decide +kernel⟩
theorem q_524 : (Cond.methodLink "MilkRoundLaw" (173 : Nat) yL_grade) ∈ lw_all := List.mem_filter.mpr ⟨List.mem_of_getElem? (i := 570) (by decide +kernel), by decide +kernel⟩
theorem q_525 : (Cond.static yL_grade) ∈ lw_all := List.mem_filter.mpr ⟨List.mem_of_getElem? (i := 571) (by decide +kernel), by decide +kernel⟩
theorem q_526 : (Cond.codeWith yL_grade method_17_code (5 : Nat) (Option.some Jvm.ClassFile.FieldType.int) [((0 : Nat), (10 : Nat), (13 : Nat), (21 : Nat)), ((0 : Nat), (10 : Nat), (17 : Nat), (13 : Nat)), ((0 : Nat), (10 : Nat), (21 : Nat), (15 : Nat))]) ∈ lw_all := List.mem_filter.mpr ⟨List.mem_of_getElem? (i := 572) (by decide +kernel), by decide +kernel⟩
theorem q_527 : (Cond.methodLink "MilkRoundLaw" (64 : Nat) yX2_grade) ∈ lw_all := List.mem_filter.mpr ⟨List.mem_of_getElem? (i := 573) (by decide +kernel), by decide +kernel⟩
theorem q_528 : (Cond.instanceMethod yX2_grade) ∈ lw_all := List.mem_filter.mpr ⟨List.mem_of_getElem? (i := 574) (by decide +kernel), by decide +kernel⟩
theorem q_529 : (Cond.selects "MilkRound" yX2_grade yX2_grade) ∈ lw_all := List.mem_filter.mpr ⟨List.mem_of_getElem? (i := 575) (by decide +kernel), by decide +kernel⟩
theorem q_530 : (Cond.code yX2_grade prog_1_method_19_code (3 : Nat) (Option.some Jvm.ClassFile.FieldType.int)) ∈ lw_all := List.mem_filter.mpr ⟨List.mem_of_getElem? (i := 576) (by decide +kernel), by decide +kernel⟩
theorem q_535 : (Cond.instanceMethod yX1_ungraded) ∈ lw_all := List.mem_filter.mpr ⟨List.mem_of_getElem? (i := 581) (by decide +kernel), by decide +kernel⟩
theorem q_536 : (Cond.code yX1_ungraded prog_3_method_8_code (3 : Nat) (Option.some Jvm.ClassFile.FieldType.int)) ∈ lw_all := List.mem_filter.mpr ⟨List.mem_of_getElem? (i := 582) (by decide +kernel), by decide +kernel⟩
theorem q_537 : (Cond.methodLink "MilkRoundLaw" (177 : Nat) yL_gradeOf) ∈ lw_all := List.mem_filter.mpr ⟨List.mem_of_getElem? (i := 583) (by decide +kernel), by decide +kernel⟩
theorem q_538 : (Cond.static yL_gradeOf) ∈ lw_all := List.mem_filter.mpr ⟨List.mem_of_getElem? (i := 584) (by decide +kernel), by decide +kernel⟩
theorem q_539 : (Cond.codeWith yL_gradeOf method_18_code (4 : Nat) (Option.some Jvm.ClassFile.FieldType.int) [((0 : Nat), (9 : Nat), (12 : Nat), (21 : Nat))]) ∈ lw_all := List.mem_filter.mpr ⟨List.mem_of_getElem? (i := 585) (by decide +kernel), by decide +kernel⟩
theorem q_540 : (Cond.methodLink "MilkRoundLaw" (68 : Nat) yX2_gradeOf) ∈ lw_all := List.mem_filter.mpr ⟨List.mem_of_getElem? (i := 586) (by decide +kernel), by decide +kernel⟩
theorem q_541 : (Cond.instanceMethod yX2_gradeOf) ∈ lw_all := List.mem_filter.mpr ⟨List.mem_of_getElem? (i := 587) (by decide +kernel), by decide +kernel⟩
theorem q_542 : (Cond.selects "MilkRound" yX2_gradeOf yX2_gradeOf) ∈ lw_all := List.mem_filter.mpr ⟨List.mem_of_getElem? (i := 588) (by decide +kernel), by decide +kernel⟩
theorem q_543 : (Cond.code yX2_gradeOf prog_1_method_20_code (2 : Nat) (Option.some Jvm.ClassFile.FieldType.char)) ∈ lw_all := List.mem_filter.mpr ⟨List.mem_of_getElem? (i := 589) (by decide +kernel), by decide +kernel⟩
theorem q_544 : (Cond.methodLink "MilkRoundLaw" (184 : Nat) yL_stateOf) ∈ lw_all := List.mem_filter.mpr ⟨List.mem_of_getElem? (i := 590) (by decide +kernel), by decide +kernel⟩
theorem q_545 : (Cond.static yL_stateOf) ∈ lw_all := List.mem_filter.mpr ⟨List.mem_of_getElem? (i := 591) (by decide +kernel), by decide +kernel⟩
theorem q_546 : (Cond.codeWith yL_stateOf method_19_code (4 : Nat) (Option.some Jvm.ClassFile.FieldType.int) [((0 : Nat), (9 : Nat), (12 : Nat), (21 : Nat))]) ∈ lw_all := List.mem_filter.mpr ⟨List.mem_of_getElem? (i := 592) (by decide +kernel), by decide +kernel⟩
theorem q_547 : (Cond.methodLink "MilkRoundLaw" (72 : Nat) yX2_stateOf) ∈ lw_all := List.mem_filter.mpr ⟨List.mem_of_getElem? (i := 593) (by decide +kernel), by decide +kernel⟩
theorem q_548 : (Cond.instanceMethod yX2_stateOf) ∈ lw_all := List.mem_filter.mpr ⟨List.mem_of_getElem? (i := 594) (by decide +kernel), by decide +kernel⟩
theorem q_549 : (Cond.selects "MilkRound" yX2_stateOf yX2_stateOf) ∈ lw_all := List.mem_filter.mpr ⟨List.mem_of_getElem? (i := 595) (by decide +kernel), by decide +kernel⟩
theorem q_550 : (Cond.code yX2_stateOf prog_1_method_22_code (2 : Nat) (Option.some Jvm.ClassFile.FieldType.char)) ∈ lw_all := List.mem_filter.mpr ⟨List.mem_of_getElem? (i := 596) (by decide +kernel), by decide +kernel⟩
theorem q_551 : (Cond.methodLink "MilkRound" (183 : Nat) yX2_requireBatch) ∈ lw_all := List.mem_filter.mpr ⟨List.mem_of_getElem? (i := 597) (by decide +kernel), by decide +kernel⟩
theorem q_553 : (Cond.instanceMethod yX2_requireBatch) ∈ lw_all := List.mem_filter.mpr ⟨List.mem_of_getElem? (i := 599) (by decide +kernel), by decide +kernel⟩
theorem q_554 : (Cond.code yX2_requireBatch prog_1_method_36_code (2 : Nat) (Option.none : Option Jvm.ClassFile.FieldType)) ∈ lw_all := List.mem_filter.mpr ⟨List.mem_of_getElem? (i := 600) (by decide +kernel), by decide +kernel⟩
theorem q_558 : (Cond.methodLink "MilkRoundLaw" (187 : Nat) yL_share) ∈ lw_all := List.mem_filter.mpr ⟨List.mem_of_getElem? (i := 604) (by decide +kernel), by decide +kernel⟩
theorem q_559 : (Cond.static yL_share) ∈ lw_all := List.mem_filter.mpr ⟨List.mem_of_getElem? (i := 605) (by decide +kernel), by decide +kernel⟩
theorem q_560 : (Cond.codeWith yL_share method_20_code (5 : Nat) (Option.some Jvm.ClassFile.FieldType.int) [((0 : Nat), (10 : Nat), (13 : Nat), (21 : Nat)), ((0 : Nat), (10 : Nat), (17 : Nat), (53 : Nat))]) ∈ lw_all := List.mem_filter.mpr ⟨List.mem_of_getElem? (i := 606) (by decide +kernel), by decide +kernel⟩
theorem q_561 : (Cond.methodLink "MilkRoundLaw" (75 : Nat) yX2_share) ∈ lw_all := List.mem_filter.mpr ⟨List.mem_of_getElem? (i := 607) (by decide +kernel), by decide +kernel⟩
theorem q_562 : (Cond.instanceMethod yX2_share) ∈ lw_all := List.mem_filter.mpr ⟨List.mem_of_getElem? (i := 608) (by decide +kernel), by decide +kernel⟩
theorem q_563 : (Cond.selects "MilkRound" yX2_share yX2_share) ∈ lw_all := List.mem_filter.mpr ⟨List.mem_of_getElem? (i := 609) (by decide +kernel), by decide +kernel⟩
theorem q_564 : (Cond.code yX2_share prog_1_method_23_code (4 : Nat) (Option.some Jvm.ClassFile.FieldType.int)) ∈ lw_all := List.mem_filter.mpr ⟨List.mem_of_getElem? (i := 610) (by decide +kernel), by decide +kernel⟩
theorem q_567 : (Cond.instanceMethod yX1_shareAt) ∈ lw_all := List.mem_filter.mpr ⟨List.mem_of_getElem? (i := 613) (by decide +kernel), by decide +kernel⟩
theorem q_568 : (Cond.code yX1_shareAt prog_3_method_9_code (5 : Nat) (Option.some Jvm.ClassFile.FieldType.int)) ∈ lw_all := List.mem_filter.mpr ⟨List.mem_of_getElem? (i := 614) (by decide +kernel), by decide +kernel⟩
theorem q_570 : (Cond.methodLink "MilkRoundLaw" (190 : Nat) yL_worth) ∈ lw_all := List.mem_filter.mpr ⟨List.mem_of_getElem? (i := 616) (by decide +kernel), by decide +kernel⟩
theorem q_571 : (Cond.static yL_worth) ∈ lw_all := List.mem_filter.mpr ⟨List.mem_of_getElem? (i := 617) (by decide +kernel), by decide +kernel⟩
theorem q_572 : (Cond.codeWith yL_worth method_21_code (4 : Nat) (Option.some Jvm.ClassFile.FieldType.int) [((0 : Nat), (9 : Nat), (12 : Nat), (21 : Nat)), ((0 : Nat), (9 : Nat), (15 : Nat), (45 : Nat))]) ∈ lw_all := List.mem_filter.mpr ⟨List.mem_of_getElem? (i := 618) (by decide +kernel), by decide +kernel⟩
theorem q_573 : (Cond.methodLink "MilkRoundLaw" (78 : Nat) yX2_worth) ∈ lw_all := List.mem_filter.mpr ⟨List.mem_of_getElem? (i := 619) (by decide +kernel), by decide +kernel⟩
theorem q_574 : (Cond.instanceMethod yX2_worth) ∈ lw_all := List.mem_filter.mpr ⟨List.mem_of_getElem? (i := 620) (by decide +kernel), by decide +kernel⟩
theorem q_575 : (Cond.selects "MilkRound" yX2_worth yX2_worth) ∈ lw_all := List.mem_filter.mpr ⟨List.mem_of_getElem? (i := 621) (by decide +kernel), by decide +kernel⟩
theorem q_576 : (Cond.code yX2_worth prog_1_method_24_code (2 : Nat) (Option.some Jvm.ClassFile.FieldType.int)) ∈ lw_all := List.mem_filter.mpr ⟨List.mem_of_getElem? (i := 622) (by decide +kernel), by decide +kernel⟩
theorem q_577 : (Cond.methodLink "MilkRound" (198 : Nat) yX2_requireGradedBatch) ∈ lw_all := List.mem_filter.mpr ⟨List.mem_of_getElem? (i := 623) (by decide +kernel), by decide +kernel⟩
theorem q_579 : (Cond.instanceMethod yX2_requireGradedBatch) ∈ lw_all := List.mem_filter.mpr ⟨List.mem_of_getElem? (i := 625) (by decide +kernel), by decide +kernel⟩
theorem q_580 : (Cond.code yX2_requireGradedBatch prog_1_method_37_code (2 : Nat) (Option.none : Option Jvm.ClassFile.FieldType)) ∈ lw_all := List.mem_filter.mpr ⟨List.mem_of_getElem? (i := 626) (by decide +kernel), by decide +kernel⟩
theorem q_584 : (Cond.instanceMethod yX1_payOfAll) ∈ lw_all := List.mem_filter.mpr ⟨List.mem_of_getElem? (i := 630) (by decide +kernel), by decide +kernel⟩
theorem q_585 : (Cond.code yX1_payOfAll prog_3_method_17_code (2 : Nat) (Option.some Jvm.ClassFile.FieldType.int)) ∈ lw_all := List.mem_filter.mpr ⟨List.mem_of_getElem? (i := 631) (by decide +kernel), by decide +kernel⟩
theorem q_586 : (Cond.methodLink "MilkRoundLaw" (193 : Nat) yL_loss) ∈ lw_all := List.mem_filter.mpr ⟨List.mem_of_getElem? (i := 632) (by decide +kernel), by decide +kernel⟩
theorem q_587 : (Cond.static yL_loss) ∈ lw_all := List.mem_filter.mpr ⟨List.mem_of_getElem? (i := 633) (by decide +kernel), by decide +kernel⟩
theorem q_588 : (Cond.codeWith yL_loss method_22_code (4 : Nat) (Option.some Jvm.ClassFile.FieldType.int) [((0 : Nat), (9 : Nat), (12 : Nat), (21 : Nat)), ((0 : Nat), (9 : Nat), (15 : Nat), (45 : Nat))]) ∈ lw_all := List.mem_filter.mpr ⟨List.mem_of_getElem? (i := 634) (by decide +kernel), by decide +kernel⟩
theorem q_589 : (Cond.methodLink "MilkRoundLaw" (81 : Nat) yX2_loss) ∈ lw_all := List.mem_filter.mpr ⟨List.mem_of_getElem? (i := 635) (by decide +kernel), by decide +kernel⟩
theorem q_590 : (Cond.instanceMethod yX2_loss) ∈ lw_all := List.mem_filter.mpr ⟨List.mem_of_getElem? (i := 636) (by decide +kernel), by decide +kernel⟩
theorem q_591 : (Cond.selects "MilkRound" yX2_loss yX2_loss) ∈ lw_all := List.mem_filter.mpr ⟨List.mem_of_getElem? (i := 637) (by decide +kernel), by decide +kernel⟩
theorem q_592 : (Cond.code yX2_loss prog_1_method_25_code (2 : Nat) (Option.some Jvm.ClassFile.FieldType.int)) ∈ lw_all := List.mem_filter.mpr ⟨List.mem_of_getElem? (i := 638) (by decide +kernel), by decide +kernel⟩
theorem q_594 : (Cond.methodLink "MilkRoundLaw" (196 : Nat) yL_pay) ∈ lw_all := List.mem_filter.mpr ⟨List.mem_of_getElem? (i := 640) (by decide +kernel), by decide +kernel⟩
theorem q_595 : (Cond.static yL_pay) ∈ lw_all := List.mem_filter.mpr ⟨List.mem_of_getElem? (i := 641) (by decide +kernel), by decide +kernel⟩
theorem q_596 : (Cond.codeWith yL_pay method_23_code (4 : Nat) (Option.some Jvm.ClassFile.FieldType.int) [((0 : Nat), (8 : Nat), (11 : Nat), (21 : Nat))]) ∈ lw_all := List.mem_filter.mpr ⟨List.mem_of_getElem? (i := 642) (by decide +kernel), by decide +kernel⟩
theorem q_597 : (Cond.methodLink "MilkRoundLaw" (84 : Nat) yX2_pay) ∈ lw_all := List.mem_filter.mpr ⟨List.mem_of_getElem? (i := 643) (by decide +kernel), by decide +kernel⟩
theorem q_598 : (Cond.instanceMethod yX2_pay) ∈ lw_all := List.mem_filter.mpr ⟨List.mem_of_getElem? (i := 644) (by decide +kernel), by decide +kernel⟩
theorem q_599 : (Cond.selects "MilkRound" yX2_pay yX2_pay) ∈ lw_all := List.mem_filter.mpr ⟨List.mem_of_getElem? (i := 645) (by decide +kernel), by decide +kernel⟩
theorem q_600 : (Cond.code yX2_pay prog_1_method_26_code (5 : Nat) (Option.some Jvm.ClassFile.FieldType.long)) ∈ lw_all := List.mem_filter.mpr ⟨List.mem_of_getElem? (i := 646) (by decide +kernel), by decide +kernel⟩
theorem q_603 : (Cond.instanceMethod yX1_paidTo) ∈ lw_all := List.mem_filter.mpr ⟨List.mem_of_getElem? (i := 649) (by decide +kernel), by decide +kernel⟩
theorem q_604 : (Cond.code yX1_paidTo prog_3_method_22_code (5 : Nat) (Option.some Jvm.ClassFile.FieldType.int)) ∈ lw_all := List.mem_filter.mpr ⟨List.mem_of_getElem? (i := 650) (by decide +kernel), by decide +kernel⟩
theorem q_605 : (Cond.methodLink "MilkRoundLaw" (199 : Nat) yL_blame) ∈ lw_all := List.mem_filter.mpr ⟨List.mem_of_getElem? (i := 651) (by decide +kernel), by decide +kernel⟩
theorem q_606 : (Cond.static yL_blame) ∈ lw_all := List.mem_filter.mpr ⟨List.mem_of_getElem? (i := 652) (by decide +kernel), by decide +kernel⟩
theorem q_607 : (Cond.codeWith yL_blame method_24_code (4 : Nat) (Option.some Jvm.ClassFile.FieldType.int) [((0 : Nat), (8 : Nat), (11 : Nat), (21 : Nat))]) ∈ lw_all := List.mem_filter.mpr ⟨List.mem_of_getElem? (i := 653) (by decide +kernel), by decide +kernel⟩
theorem q_608 : (Cond.methodLink "MilkRoundLaw" (88 : Nat) yX2_blame) ∈ lw_all := List.mem_filter.mpr ⟨List.mem_of_getElem? (i := 654) (by decide +kernel), by decide +kernel⟩
theorem q_609 : (Cond.instanceMethod yX2_blame) ∈ lw_all := List.mem_filter.mpr ⟨List.mem_of_getElem? (i := 655) (by decide +kernel), by decide +kernel⟩
theorem q_610 : (Cond.selects "MilkRound" yX2_blame yX2_blame) ∈ lw_all := List.mem_filter.mpr ⟨List.mem_of_getElem? (i := 656) (by decide +kernel), by decide +kernel⟩
theorem q_611 : (Cond.code yX2_blame prog_1_method_27_code (5 : Nat) (Option.some Jvm.ClassFile.FieldType.long)) ∈ lw_all := List.mem_filter.mpr ⟨List.mem_of_getElem? (i := 657) (by decide +kernel), by decide +kernel⟩
theorem q_614 : (Cond.instanceMethod yX1_blamedOn) ∈ lw_all := List.mem_filter.mpr ⟨List.mem_of_getElem? (i := 660) (by decide +kernel), by decide +kernel⟩
theorem q_615 : (Cond.code yX1_blamedOn prog_3_method_23_code (5 : Nat) (Option.some Jvm.ClassFile.FieldType.int)) ∈ lw_all := List.mem_filter.mpr ⟨List.mem_of_getElem? (i := 661) (by decide +kernel), by decide +kernel⟩
theorem q_616 : (Cond.methodLink "MilkRoundLaw" (202 : Nat) yL_balanceBySamples) ∈ lw_all := List.mem_filter.mpr ⟨List.mem_of_getElem? (i := 662) (by decide +kernel), by decide +kernel⟩
theorem q_617 : (Cond.static yL_balanceBySamples) ∈ lw_all := List.mem_filter.mpr ⟨List.mem_of_getElem? (i := 663) (by decide +kernel), by decide +kernel⟩
theorem q_618 : (Cond.codeWith yL_balanceBySamples method_25_code (4 : Nat) (Option.some Jvm.ClassFile.FieldType.int) [((0 : Nat), (8 : Nat), (11 : Nat), (21 : Nat))]) ∈ lw_all := List.mem_filter.mpr ⟨List.mem_of_getElem? (i := 664) (by decide +kernel), by decide +kernel⟩
theorem q_619 : (Cond.methodLink "MilkRoundLaw" (91 : Nat) yX2_balanceBySamples) ∈ lw_all := List.mem_filter.mpr ⟨List.mem_of_getElem? (i := 665) (by decide +kernel), by decide +kernel⟩
theorem q_620 : (Cond.instanceMethod yX2_balanceBySamples) ∈ lw_all := List.mem_filter.mpr ⟨List.mem_of_getElem? (i := 666) (by decide +kernel), by decide +kernel⟩
theorem q_621 : (Cond.selects "MilkRound" yX2_balanceBySamples yX2_balanceBySamples) ∈ lw_all := List.mem_filter.mpr ⟨List.mem_of_getElem? (i := 667) (by decide +kernel), by decide +kernel⟩
theorem q_622 : (Cond.code yX2_balanceBySamples prog_1_method_28_code (2 : Nat) (Option.some Jvm.ClassFile.FieldType.long)) ∈ lw_all := List.mem_filter.mpr ⟨List.mem_of_getElem? (i := 668) (by decide +kernel), by decide +kernel⟩
theorem q_625 : (Cond.instanceMethod yX1_balanceOf) ∈ lw_all := List.mem_filter.mpr ⟨List.mem_of_getElem? (i := 671) (by decide +kernel), by decide +kernel⟩
theorem q_626 : (Cond.code yX1_balanceOf prog_3_method_24_code (5 : Nat) (Option.some Jvm.ClassFile.FieldType.long)) ∈ lw_all := List.mem_filter.mpr ⟨List.mem_of_getElem? (i := 672) (by decide +kernel), by decide +kernel⟩
theorem q_627 : (Cond.methodLink "MilkRoundLaw" (205 : Nat) yL_wayOf) ∈ lw_all := List.mem_filter.mpr ⟨List.mem_of_getElem? (i := 673) (by decide +kernel), by decide +kernel⟩
theorem q_628 : (Cond.static yL_wayOf) ∈ lw_all := List.mem_filter.mpr ⟨List.mem_of_getElem? (i := 674) (by decide +kernel), by decide +kernel⟩
theorem q_629 : (Cond.codeWith yL_wayOf method_26_code (4 : Nat) (Option.some Jvm.ClassFile.FieldType.int) [((0 : Nat), (9 : Nat), (12 : Nat), (21 : Nat))]) ∈ lw_all := List.mem_filter.mpr ⟨List.mem_of_getElem? (i := 675) (by decide +kernel), by decide +kernel⟩
theorem q_630 : (Cond.methodLink "MilkRoundLaw" (94 : Nat) yX2_wayOf) ∈ lw_all := List.mem_filter.mpr ⟨List.mem_of_getElem? (i := 676) (by decide +kernel), by decide +kernel⟩
theorem q_631 : (Cond.instanceMethod yX2_wayOf) ∈ lw_all := List.mem_filter.mpr ⟨List.mem_of_getElem? (i := 677) (by decide +kernel), by decide +kernel⟩
theorem q_632 : (Cond.selects "MilkRound" yX2_wayOf yX2_wayOf) ∈ lw_all := List.mem_filter.mpr ⟨List.mem_of_getElem? (i := 678) (by decide +kernel), by decide +kernel⟩
theorem q_633 : (Cond.code yX2_wayOf prog_1_method_29_code (2 : Nat) (Option.some Jvm.ClassFile.FieldType.char)) ∈ lw_all := List.mem_filter.mpr ⟨List.mem_of_getElem? (i := 679) (by decide +kernel), by decide +kernel⟩
theorem q_634 : (Cond.methodLink "MilkRoundLaw" (208 : Nat) yL_spoiltShare) ∈ lw_all := List.mem_filter.mpr ⟨List.mem_of_getElem? (i := 680) (by decide +kernel), by decide +kernel⟩
theorem q_635 : (Cond.static yL_spoiltShare) ∈ lw_all := List.mem_filter.mpr ⟨List.mem_of_getElem? (i := 681) (by decide +kernel), by decide +kernel⟩
theorem q_636 : (Cond.codeWith yL_spoiltShare method_27_code (3 : Nat) (Option.some Jvm.ClassFile.FieldType.int) [((0 : Nat), (8 : Nat), (11 : Nat), (101 : Nat))]) ∈ lw_all := List.mem_filter.mpr ⟨List.mem_of_getElem? (i := 682) (by decide +kernel), by decide +kernel⟩
theorem q_637 : (Cond.classLink "MilkRoundLaw" (101 : Nat) "java/lang/ArithmeticException") ∈ lw_all := List.mem_filter.mpr ⟨List.mem_of_getElem? (i := 683) (by decide +kernel), by decide +kernel⟩
theorem q_638 : (Cond.instantiable "java/lang/ArithmeticException" (6 : Nat)) ∈ lw_all := List.mem_filter.mpr ⟨List.mem_of_getElem? (i := 684) (by decide +kernel), by decide +kernel⟩
theorem q_639 : (Cond.instanceMethod ⟨"java/lang/ArithmeticException", "<init>", "(Ljava/lang/String;)V"⟩) ∈ lw_all := List.mem_filter.mpr ⟨List.mem_of_getElem? (i := 685) (by decide +kernel), by decide +kernel⟩
theorem q_640 : (Cond.code ⟨"java/lang/ArithmeticException", "<init>", "(Ljava/lang/String;)V"⟩ prog_7_method_2_code (2 : Nat) (Option.none : Option Jvm.ClassFile.FieldType)) ∈ lw_all := List.mem_filter.mpr ⟨List.mem_of_getElem? (i := 686) (by decide +kernel), by decide +kernel⟩
theorem q_641 : (Cond.methodLink "java/lang/ArithmeticException" (7 : Nat) ⟨"java/lang/RuntimeException", "<init>", "(Ljava/lang/String;)V"⟩) ∈ lw_all := List.mem_filter.mpr ⟨List.mem_of_getElem? (i := 687) (by decide +kernel), by decide +kernel⟩
theorem q_642 : (Cond.lays "java/lang/ArithmeticException" "java/lang/Throwable" "backtrace" "Ljava/lang/Object;") ∈ lw_all := List.mem_filter.mpr ⟨List.mem_of_getElem? (i := 688) (by decide +kernel), by decide +kernel⟩
theorem q_643 : (Cond.lays "java/lang/ArithmeticException" "java/lang/Throwable" "detailMessage" "Ljava/lang/String;") ∈ lw_all := List.mem_filter.mpr ⟨List.mem_of_getElem? (i := 689) (by decide +kernel), by decide +kernel⟩
theorem q_644 : (Cond.lays "java/lang/ArithmeticException" "java/lang/Throwable" "cause" "Ljava/lang/Throwable;") ∈ lw_all := List.mem_filter.mpr ⟨List.mem_of_getElem? (i := 690) (by decide +kernel), by decide +kernel⟩
theorem q_645 : (Cond.lays "java/lang/ArithmeticException" "java/lang/Throwable" "stackTrace" "[Ljava/lang/StackTraceElement;") ∈ lw_all := List.mem_filter.mpr ⟨List.mem_of_getElem? (i := 691) (by decide +kernel), by decide +kernel⟩
theorem q_646 : (Cond.lays "java/lang/ArithmeticException" "java/lang/Throwable" "depth" "I") ∈ lw_all := List.mem_filter.mpr ⟨List.mem_of_getElem? (i := 692) (by decide +kernel), by decide +kernel⟩
theorem q_647 : (Cond.lays "java/lang/ArithmeticException" "java/lang/Throwable" "suppressedExceptions" "Ljava/util/List;") ∈ lw_all := List.mem_filter.mpr ⟨List.mem_of_getElem? (i := 693) (by decide +kernel), by decide +kernel⟩
theorem q_650 : (Cond.selects "java/lang/ArithmeticException" ⟨"java/lang/Throwable", "fillInStackTrace", "(I)Ljava/lang/Throwable;"⟩ ⟨"java/lang/Throwable", "fillInStackTrace", "(I)Ljava/lang/Throwable;"⟩) ∈ lw_all := List.mem_filter.mpr ⟨List.mem_of_getElem? (i := 696) (by decide +kernel), by decide +kernel⟩
theorem q_651 : (Cond.methodLink "MilkRoundLaw" (97 : Nat) yX2_spoiltShare) ∈ lw_all := List.mem_filter.mpr ⟨List.mem_of_getElem? (i := 697) (by decide +kernel), by decide +kernel⟩
theorem q_652 : (Cond.instanceMethod yX2_spoiltShare) ∈ lw_all := List.mem_filter.mpr ⟨List.mem_of_getElem? (i := 698) (by decide +kernel), by decide +kernel⟩
theorem q_653 : (Cond.selects "MilkRound" yX2_spoiltShare yX2_spoiltShare) ∈ lw_all := List.mem_filter.mpr ⟨List.mem_of_getElem? (i := 699) (by decide +kernel), by decide +kernel⟩
theorem q_654 : (Cond.code yX2_spoiltShare prog_1_method_30_code (4 : Nat) (Option.some Jvm.ClassFile.FieldType.float)) ∈ lw_all := List.mem_filter.mpr ⟨List.mem_of_getElem? (i := 700) (by decide +kernel), by decide +kernel⟩
theorem q_657 : (Cond.instanceMethod yX1_allLitres) ∈ lw_all := List.mem_filter.mpr ⟨List.mem_of_getElem? (i := 703) (by decide +kernel), by decide +kernel⟩
theorem q_658 : (Cond.code yX1_allLitres prog_3_method_7_code (3 : Nat) (Option.some Jvm.ClassFile.FieldType.int)) ∈ lw_all := List.mem_filter.mpr ⟨List.mem_of_getElem? (i := 704) (by decide +kernel), by decide +kernel⟩
theorem q_659 : (Cond.classLink "MilkRound" (220 : Nat) "java/lang/ArithmeticException") ∈ lw_all := List.mem_filter.mpr ⟨List.mem_of_getElem? (i := 705) (by decide +kernel), by decide +kernel⟩
theorem q_661 : (Cond.methodLink "MilkRound" (224 : Nat) ⟨"java/lang/ArithmeticException", "<init>", "(Ljava/lang/String;)V"⟩) ∈ lw_all := List.mem_filter.mpr ⟨List.mem_of_getElem? (i := 707) (by decide +kernel), by decide +kernel⟩
theorem q_662 : (Cond.methodLink "MilkRoundLaw" (212 : Nat) yL_meanPay) ∈ lw_all := List.mem_filter.mpr ⟨List.mem_of_getElem? (i := 708) (by decide +kernel), by decide +kernel⟩
theorem q_663 : (Cond.static yL_meanPay) ∈ lw_all := List.mem_filter.mpr ⟨List.mem_of_getElem? (i := 709) (by decide +kernel), by decide +kernel⟩
theorem q_664 : (Cond.codeWith yL_meanPay method_28_code (3 : Nat) (Option.some Jvm.ClassFile.FieldType.int) [((0 : Nat), (7 : Nat), (10 : Nat), (101 : Nat))]) ∈ lw_all := List.mem_filter.mpr ⟨List.mem_of_getElem? (i := 710) (by decide +kernel), by decide +kernel⟩
theorem q_665 : (Cond.methodLink "MilkRoundLaw" (103 : Nat) yX2_meanPay) ∈ lw_all := List.mem_filter.mpr ⟨List.mem_of_getElem? (i := 711) (by decide +kernel), by decide +kernel⟩
theorem q_666 : (Cond.instanceMethod yX2_meanPay) ∈ lw_all := List.mem_filter.mpr ⟨List.mem_of_getElem? (i := 712) (by decide +kernel), by decide +kernel⟩
theorem q_667 : (Cond.selects "MilkRound" yX2_meanPay yX2_meanPay) ∈ lw_all := List.mem_filter.mpr ⟨List.mem_of_getElem? (i := 713) (by decide +kernel), by decide +kernel⟩
theorem q_668 : (Cond.code yX2_meanPay prog_1_method_31_code (6 : Nat) (Option.some Jvm.ClassFile.FieldType.double)) ∈ lw_all := List.mem_filter.mpr ⟨List.mem_of_getElem? (i := 714) (by decide +kernel), by decide +kernel⟩
theorem q_670 : (Cond.classLink "MilkRoundLaw" (108 : Nat) "MilkRoundModel") ∈ lw_all := List.mem_filter.mpr ⟨List.mem_of_getElem? (i := 716) (by decide +kernel), by decide +kernel⟩
theorem q_671 : (Cond.instantiable "MilkRoundModel" (21 : Nat)) ∈ lw_all := List.mem_filter.mpr ⟨List.mem_of_getElem? (i := 717) (by decide +kernel), by decide +kernel⟩
theorem q_672 : (Cond.methodLink "MilkRoundLaw" (110 : Nat) yX3_init) ∈ lw_all := List.mem_filter.mpr ⟨List.mem_of_getElem? (i := 718) (by decide +kernel), by decide +kernel⟩
theorem q_673 : (Cond.instanceMethod yX3_init) ∈ lw_all := List.mem_filter.mpr ⟨List.mem_of_getElem? (i := 719) (by decide +kernel), by decide +kernel⟩
theorem q_674 : (Cond.code yX3_init prog_5_method_1_code (1 : Nat) (Option.none : Option Jvm.ClassFile.FieldType)) ∈ lw_all := List.mem_filter.mpr ⟨List.mem_of_getElem? (i := 720) (by decide +kernel), by decide +kernel⟩
theorem q_675 : (Cond.methodLink "MilkRoundModel" (1 : Nat) ⟨"java/lang/Object", "<init>", "()V"⟩) ∈ lw_all := List.mem_filter.mpr ⟨List.mem_of_getElem? (i := 721) (by decide +kernel), by decide +kernel⟩
theorem q_676 : (Cond.fieldLink "MilkRoundModel" (77 : Nat) "MilkRoundModel" "day" "I") ∈ lw_all := List.mem_filter.mpr ⟨List.mem_of_getElem? (i := 722) (by decide +kernel), by decide +kernel⟩
theorem q_677 : (Cond.fieldLink "MilkRoundModel" (7 : Nat) "MilkRoundModel" "rooms" "[I") ∈ lw_all := List.mem_filter.mpr ⟨List.mem_of_getElem? (i := 723) (by decide +kernel), by decide +kernel⟩
theorem q_678 : (Cond.fieldLink "MilkRoundModel" (13 : Nat) "MilkRoundModel" "tanks" "[I") ∈ lw_all := List.mem_filter.mpr ⟨List.mem_of_getElem? (i := 724) (by decide +kernel), by decide +kernel⟩
theorem q_679 : (Cond.fieldLink "MilkRoundModel" (16 : Nat) "MilkRoundModel" "bests" "[I") ∈ lw_all := List.mem_filter.mpr ⟨List.mem_of_getElem? (i := 725) (by decide +kernel), by decide +kernel⟩
theorem q_680 : (Cond.fieldLink "MilkRoundModel" (19 : Nat) "MilkRoundModel" "cows" "[I") ∈ lw_all := List.mem_filter.mpr ⟨List.mem_of_getElem? (i := 726) (by decide +kernel), by decide +kernel⟩
theorem q_681 : (Cond.fieldLink "MilkRoundModel" (60 : Nat) "MilkRoundModel" "farms" "I") ∈ lw_all := List.mem_filter.mpr ⟨List.mem_of_getElem? (i := 727) (by decide +kernel), by decide +kernel⟩
theorem q_682 : (Cond.fieldLink "MilkRoundModel" (22 : Nat) "MilkRoundModel" "vatRooms" "[I") ∈ lw_all := List.mem_filter.mpr ⟨List.mem_of_getElem? (i := 728) (by decide +kernel), by decide +kernel⟩
theorem q_683 : (Cond.fieldLink "MilkRoundModel" (25 : Nat) "MilkRoundModel" "inVats" "[I") ∈ lw_all := List.mem_filter.mpr ⟨List.mem_of_getElem? (i := 729) (by decide +kernel), by decide +kernel⟩
theorem q_684 : (Cond.fieldLink "MilkRoundModel" (28 : Nat) "MilkRoundModel" "vatShares" "[I") ∈ lw_all := List.mem_filter.mpr ⟨List.mem_of_getElem? (i := 730) (by decide +kernel), by decide +kernel⟩
theorem q_685 : (Cond.fieldLink "MilkRoundModel" (84 : Nat) "MilkRoundModel" "vats" "I") ∈ lw_all := List.mem_filter.mpr ⟨List.mem_of_getElem? (i := 731) (by decide +kernel), by decide +kernel⟩
theorem q_686 : (Cond.fieldLink "MilkRoundModel" (87 : Nat) "MilkRoundModel" "isUnderWay" "Z") ∈ lw_all := List.mem_filter.mpr ⟨List.mem_of_getElem? (i := 732) (by decide +kernel), by decide +kernel⟩
theorem q_687 : (Cond.fieldLink "MilkRoundModel" (31 : Nat) "MilkRoundModel" "isVisited" "[Z") ∈ lw_all := List.mem_filter.mpr ⟨List.mem_of_getElem? (i := 733) (by decide +kernel), by decide +kernel⟩
theorem q_688 : (Cond.fieldLink "MilkRoundModel" (91 : Nat) "MilkRoundModel" "rounds" "I") ∈ lw_all := List.mem_filter.mpr ⟨List.mem_of_getElem? (i := 734) (by decide +kernel), by decide +kernel⟩
theorem q_689 : (Cond.fieldLink "MilkRoundModel" (97 : Nat) "MilkRoundModel" "inTanker" "I") ∈ lw_all := List.mem_filter.mpr ⟨List.mem_of_getElem? (i := 735) (by decide +kernel), by decide +kernel⟩
theorem q_690 : (Cond.fieldLink "MilkRoundModel" (35 : Nat) "MilkRoundModel" "farmOf" "[I") ∈ lw_all := List.mem_filter.mpr ⟨List.mem_of_getElem? (i := 736) (by decide +kernel), by decide +kernel⟩
theorem q_691 : (Cond.fieldLink "MilkRoundModel" (38 : Nat) "MilkRoundModel" "litres" "[I") ∈ lw_all := List.mem_filter.mpr ⟨List.mem_of_getElem? (i := 737) (by decide +kernel), by decide +kernel⟩
theorem q_692 : (Cond.fieldLink "MilkRoundModel" (41 : Nat) "MilkRoundModel" "grades" "[C") ∈ lw_all := List.mem_filter.mpr ⟨List.mem_of_getElem? (i := 738) (by decide +kernel), by decide +kernel⟩
theorem q_693 : (Cond.fieldLink "MilkRoundModel" (45 : Nat) "MilkRoundModel" "ways" "[I") ∈ lw_all := List.mem_filter.mpr ⟨List.mem_of_getElem? (i := 739) (by decide +kernel), by decide +kernel⟩
theorem q_694 : (Cond.fieldLink "MilkRoundModel" (94 : Nat) "MilkRoundModel" "samples" "I") ∈ lw_all := List.mem_filter.mpr ⟨List.mem_of_getElem? (i := 740) (by decide +kernel), by decide +kernel⟩
theorem q_695 : (Cond.fieldLink "MilkRoundModel" (107 : Nat) "MilkRoundModel" "batches" "I") ∈ lw_all := List.mem_filter.mpr ⟨List.mem_of_getElem? (i := 741) (by decide +kernel), by decide +kernel⟩
theorem q_696 : (Cond.fieldLink "MilkRoundModel" (48 : Nat) "MilkRoundModel" "thrown" "I") ∈ lw_all := List.mem_filter.mpr ⟨List.mem_of_getElem? (i := 742) (by decide +kernel), by decide +kernel⟩
theorem q_697 : (Cond.lays "MilkRoundModel" "MilkRoundModel" "day" "I") ∈ lw_all := List.mem_filter.mpr ⟨List.mem_of_getElem? (i := 743) (by decide +kernel), by decide +kernel⟩
theorem q_699 : (Cond.laysFinal "MilkRoundModel" "MilkRoundModel" "rooms" "[I") ∈ lw_all := List.mem_filter.mpr ⟨List.mem_of_getElem? (i := 745) (by decide +kernel), by decide +kernel⟩
theorem q_701 : (Cond.laysFinal "MilkRoundModel" "MilkRoundModel" "tanks" "[I") ∈ lw_all := List.mem_filter.mpr ⟨List.mem_of_getElem? (i := 747) (by decide +kernel), by decide +kernel⟩
theorem q_703 : (Cond.laysFinal "MilkRoundModel" "MilkRoundModel" "bests" "[I") ∈ lw_all := List.mem_filter.mpr ⟨List.mem_of_getElem? (i := 749) (by decide +kernel), by decide +kernel⟩
theorem q_705 : (Cond.laysFinal "MilkRoundModel" "MilkRoundModel" "cows" "[I") ∈ lw_all := List.mem_filter.mpr ⟨List.mem_of_getElem? (i := 751) (by decide +kernel), by decide +kernel⟩
theorem q_707 : (Cond.lays "MilkRoundModel" "MilkRoundModel" "farms" "I") ∈ lw_all := List.mem_filter.mpr ⟨List.mem_of_getElem? (i := 753) (by decide +kernel), by decide +kernel⟩
theorem q_709 : (Cond.laysFinal "MilkRoundModel" "MilkRoundModel" "vatRooms" "[I") ∈ lw_all := List.mem_filter.mpr ⟨List.mem_of_getElem? (i := 755) (by decide +kernel), by decide +kernel⟩
theorem q_711 : (Cond.laysFinal "MilkRoundModel" "MilkRoundModel" "inVats" "[I") ∈ lw_all := List.mem_filter.mpr ⟨List.mem_of_getElem? (i := 757) (by decide +kernel), by decide +kernel⟩
theorem q_713 : (Cond.laysFinal "MilkRoundModel" "MilkRoundModel" "vatShares" "[I") ∈ lw_all := List.mem_filter.mpr ⟨List.mem_of_getElem? (i := 759) (by decide +kernel), by decide +kernel⟩
theorem q_715 : (Cond.lays "MilkRoundModel" "MilkRoundModel" "vats" "I") ∈ lw_all := List.mem_filter.mpr ⟨List.mem_of_getElem? (i := 761) (by decide +kernel), by decide +kernel⟩
theorem q_717 : (Cond.lays "MilkRoundModel" "MilkRoundModel" "isUnderWay" "Z") ∈ lw_all := List.mem_filter.mpr ⟨List.mem_of_getElem? (i := 763) (by decide +kernel), by decide +kernel⟩
theorem q_719 : (Cond.laysFinal "MilkRoundModel" "MilkRoundModel" "isVisited" "[Z") ∈ lw_all := List.mem_filter.mpr ⟨List.mem_of_getElem? (i := 765) (by decide +kernel), by decide +kernel⟩
theorem q_721 : (Cond.lays "MilkRoundModel" "MilkRoundModel" "rounds" "I") ∈ lw_all := List.mem_filter.mpr ⟨List.mem_of_getElem? (i := 767) (by decide +kernel), by decide +kernel⟩
theorem q_723 : (Cond.lays "MilkRoundModel" "MilkRoundModel" "inTanker" "I") ∈ lw_all := List.mem_filter.mpr ⟨List.mem_of_getElem? (i := 769) (by decide +kernel), by decide +kernel⟩
theorem q_725 : (Cond.laysFinal "MilkRoundModel" "MilkRoundModel" "farmOf" "[I") ∈ lw_all := List.mem_filter.mpr ⟨List.mem_of_getElem? (i := 771) (by decide +kernel), by decide +kernel⟩
theorem q_727 : (Cond.laysFinal "MilkRoundModel" "MilkRoundModel" "litres" "[I") ∈ lw_all := List.mem_filter.mpr ⟨List.mem_of_getElem? (i := 773) (by decide +kernel), by decide +kernel⟩
theorem q_729 : (Cond.laysFinal "MilkRoundModel" "MilkRoundModel" "grades" "[C") ∈ lw_all := List.mem_filter.mpr ⟨List.mem_of_getElem? (i := 775) (by decide +kernel), by decide +kernel⟩
theorem q_731 : (Cond.laysFinal "MilkRoundModel" "MilkRoundModel" "ways" "[I") ∈ lw_all := List.mem_filter.mpr ⟨List.mem_of_getElem? (i := 777) (by decide +kernel), by decide +kernel⟩
theorem q_733 : (Cond.lays "MilkRoundModel" "MilkRoundModel" "samples" "I") ∈ lw_all := List.mem_filter.mpr ⟨List.mem_of_getElem? (i := 779) (by decide +kernel), by decide +kernel⟩
theorem q_735 : (Cond.lays "MilkRoundModel" "MilkRoundModel" "batches" "I") ∈ lw_all := List.mem_filter.mpr ⟨List.mem_of_getElem? (i := 781) (by decide +kernel), by decide +kernel⟩
theorem q_737 : (Cond.lays "MilkRoundModel" "MilkRoundModel" "thrown" "I") ∈ lw_all := List.mem_filter.mpr ⟨List.mem_of_getElem? (i := 783) (by decide +kernel), by decide +kernel⟩
theorem q_740 : (Cond.methodLink "MilkRoundLaw" (117 : Nat) yX3_thrown) ∈ lw_all := List.mem_filter.mpr ⟨List.mem_of_getElem? (i := 786) (by decide +kernel), by decide +kernel⟩
theorem q_741 : (Cond.instanceMethod yX3_thrown) ∈ lw_all := List.mem_filter.mpr ⟨List.mem_of_getElem? (i := 787) (by decide +kernel), by decide +kernel⟩
theorem q_742 : (Cond.selects "MilkRoundModel" yX3_thrown yX3_thrown) ∈ lw_all := List.mem_filter.mpr ⟨List.mem_of_getElem? (i := 788) (by decide +kernel), by decide +kernel⟩
theorem q_743 : (Cond.code yX3_thrown prog_5_method_2_code (1 : Nat) (Option.some Jvm.ClassFile.FieldType.int)) ∈ lw_all := List.mem_filter.mpr ⟨List.mem_of_getElem? (i := 789) (by decide +kernel), by decide +kernel⟩
theorem q_744 : (Cond.methodLink "MilkRoundLaw" (116 : Nat) yX3_addFarm) ∈ lw_all := List.mem_filter.mpr ⟨List.mem_of_getElem? (i := 790) (by decide +kernel), by decide +kernel⟩
theorem q_745 : (Cond.instanceMethod yX3_addFarm) ∈ lw_all := List.mem_filter.mpr ⟨List.mem_of_getElem? (i := 791) (by decide +kernel), by decide +kernel⟩
theorem q_746 : (Cond.selects "MilkRoundModel" yX3_addFarm yX3_addFarm) ∈ lw_all := List.mem_filter.mpr ⟨List.mem_of_getElem? (i := 792) (by decide +kernel), by decide +kernel⟩
theorem q_747 : (Cond.code yX3_addFarm prog_5_method_4_code (2 : Nat) (Option.some Jvm.ClassFile.FieldType.int)) ∈ lw_all := List.mem_filter.mpr ⟨List.mem_of_getElem? (i := 793) (by decide +kernel), by decide +kernel⟩
theorem q_748 : (Cond.constantLong "MilkRoundModel" (52 : Nat) (10 : Int64)) ∈ lw_all := List.mem_filter.mpr ⟨List.mem_of_getElem? (i := 794) (by decide +kernel), by decide +kernel⟩
theorem q_749 : (Cond.constantLong "MilkRoundModel" (54 : Nat) (200 : Int64)) ∈ lw_all := List.mem_filter.mpr ⟨List.mem_of_getElem? (i := 795) (by decide +kernel), by decide +kernel⟩
theorem q_750 : (Cond.methodLink "MilkRoundModel" (56 : Nat) yX3_in) ∈ lw_all := List.mem_filter.mpr ⟨List.mem_of_getElem? (i := 796) (by decide +kernel), by decide +kernel⟩
theorem q_751 : (Cond.static yX3_in) ∈ lw_all := List.mem_filter.mpr ⟨List.mem_of_getElem? (i := 797) (by decide +kernel), by decide +kernel⟩
theorem q_752 : (Cond.code yX3_in prog_5_method_3_code (6 : Nat) (Option.some Jvm.ClassFile.FieldType.boolean)) ∈ lw_all := List.mem_filter.mpr ⟨List.mem_of_getElem? (i := 798) (by decide +kernel), by decide +kernel⟩
theorem q_753 : (Cond.methodLink "MilkRoundLaw" (123 : Nat) yX3_addCow) ∈ lw_all := List.mem_filter.mpr ⟨List.mem_of_getElem? (i := 799) (by decide +kernel), by decide +kernel⟩
theorem q_754 : (Cond.instanceMethod yX3_addCow) ∈ lw_all := List.mem_filter.mpr ⟨List.mem_of_getElem? (i := 800) (by decide +kernel), by decide +kernel⟩
theorem q_755 : (Cond.selects "MilkRoundModel" yX3_addCow yX3_addCow) ∈ lw_all := List.mem_filter.mpr ⟨List.mem_of_getElem? (i := 801) (by decide +kernel), by decide +kernel⟩
theorem q_756 : (Cond.code yX3_addCow prog_5_method_6_code (3 : Nat) (Option.some Jvm.ClassFile.FieldType.int)) ∈ lw_all := List.mem_filter.mpr ⟨List.mem_of_getElem? (i := 802) (by decide +kernel), by decide +kernel⟩
theorem q_757 : (Cond.methodLink "MilkRoundModel" (63 : Nat) yX3_isFarm) ∈ lw_all := List.mem_filter.mpr ⟨List.mem_of_getElem? (i := 803) (by decide +kernel), by decide +kernel⟩
theorem q_759 : (Cond.instanceMethod yX3_isFarm) ∈ lw_all := List.mem_filter.mpr ⟨List.mem_of_getElem? (i := 805) (by decide +kernel), by decide +kernel⟩
theorem q_760 : (Cond.code yX3_isFarm prog_5_method_5_code (2 : Nat) (Option.some Jvm.ClassFile.FieldType.boolean)) ∈ lw_all := List.mem_filter.mpr ⟨List.mem_of_getElem? (i := 806) (by decide +kernel), by decide +kernel⟩
theorem q_761 : (Cond.constantLong "MilkRoundModel" (67 : Nat) (5 : Int64)) ∈ lw_all := List.mem_filter.mpr ⟨List.mem_of_getElem? (i := 807) (by decide +kernel), by decide +kernel⟩
theorem q_762 : (Cond.constantLong "MilkRoundModel" (69 : Nat) (30 : Int64)) ∈ lw_all := List.mem_filter.mpr ⟨List.mem_of_getElem? (i := 808) (by decide +kernel), by decide +kernel⟩
theorem q_763 : (Cond.methodLink "MilkRoundLaw" (126 : Nat) yX3_milkOf) ∈ lw_all := List.mem_filter.mpr ⟨List.mem_of_getElem? (i := 809) (by decide +kernel), by decide +kernel⟩
theorem q_764 : (Cond.instanceMethod yX3_milkOf) ∈ lw_all := List.mem_filter.mpr ⟨List.mem_of_getElem? (i := 810) (by decide +kernel), by decide +kernel⟩
theorem q_765 : (Cond.selects "MilkRoundModel" yX3_milkOf yX3_milkOf) ∈ lw_all := List.mem_filter.mpr ⟨List.mem_of_getElem? (i := 811) (by decide +kernel), by decide +kernel⟩
theorem q_766 : (Cond.code yX3_milkOf prog_5_method_8_code (5 : Nat) (Option.some Jvm.ClassFile.FieldType.int)) ∈ lw_all := List.mem_filter.mpr ⟨List.mem_of_getElem? (i := 812) (by decide +kernel), by decide +kernel⟩
theorem q_767 : (Cond.constantLong "MilkRoundModel" (71 : Nat) (999 : Int64)) ∈ lw_all := List.mem_filter.mpr ⟨List.mem_of_getElem? (i := 813) (by decide +kernel), by decide +kernel⟩
theorem q_768 : (Cond.methodLink "MilkRoundModel" (73 : Nat) yX3_gives) ∈ lw_all := List.mem_filter.mpr ⟨List.mem_of_getElem? (i := 814) (by decide +kernel), by decide +kernel⟩
theorem q_769 : (Cond.static yX3_gives) ∈ lw_all := List.mem_filter.mpr ⟨List.mem_of_getElem? (i := 815) (by decide +kernel), by decide +kernel⟩
theorem q_770 : (Cond.code yX3_gives prog_5_method_7_code (4 : Nat) (Option.some Jvm.ClassFile.FieldType.int)) ∈ lw_all := List.mem_filter.mpr ⟨List.mem_of_getElem? (i := 816) (by decide +kernel), by decide +kernel⟩
theorem q_771 : (Cond.methodLink "MilkRoundLaw" (129 : Nat) yX3_inTank) ∈ lw_all := List.mem_filter.mpr ⟨List.mem_of_getElem? (i := 817) (by decide +kernel), by decide +kernel⟩
theorem q_772 : (Cond.instanceMethod yX3_inTank) ∈ lw_all := List.mem_filter.mpr ⟨List.mem_of_getElem? (i := 818) (by decide +kernel), by decide +kernel⟩
theorem q_773 : (Cond.selects "MilkRoundModel" yX3_inTank yX3_inTank) ∈ lw_all := List.mem_filter.mpr ⟨List.mem_of_getElem? (i := 819) (by decide +kernel), by decide +kernel⟩
theorem q_774 : (Cond.code yX3_inTank prog_5_method_9_code (2 : Nat) (Option.some Jvm.ClassFile.FieldType.int)) ∈ lw_all := List.mem_filter.mpr ⟨List.mem_of_getElem? (i := 820) (by decide +kernel), by decide +kernel⟩
theorem q_775 : (Cond.methodLink "MilkRoundLaw" (132 : Nat) yX3_pass) ∈ lw_all := List.mem_filter.mpr ⟨List.mem_of_getElem? (i := 821) (by decide +kernel), by decide +kernel⟩
theorem q_776 : (Cond.instanceMethod yX3_pass) ∈ lw_all := List.mem_filter.mpr ⟨List.mem_of_getElem? (i := 822) (by decide +kernel), by decide +kernel⟩
theorem q_777 : (Cond.selects "MilkRoundModel" yX3_pass yX3_pass) ∈ lw_all := List.mem_filter.mpr ⟨List.mem_of_getElem? (i := 823) (by decide +kernel), by decide +kernel⟩
theorem q_778 : (Cond.code yX3_pass prog_5_method_10_code (9 : Nat) (Option.some Jvm.ClassFile.FieldType.int)) ∈ lw_all := List.mem_filter.mpr ⟨List.mem_of_getElem? (i := 824) (by decide +kernel), by decide +kernel⟩
theorem q_779 : (Cond.methodLink "MilkRoundLaw" (136 : Nat) yX3_day) ∈ lw_all := List.mem_filter.mpr ⟨List.mem_of_getElem? (i := 825) (by decide +kernel), by decide +kernel⟩
theorem q_780 : (Cond.instanceMethod yX3_day) ∈ lw_all := List.mem_filter.mpr ⟨List.mem_of_getElem? (i := 826) (by decide +kernel), by decide +kernel⟩
theorem q_781 : (Cond.selects "MilkRoundModel" yX3_day yX3_day) ∈ lw_all := List.mem_filter.mpr ⟨List.mem_of_getElem? (i := 827) (by decide +kernel), by decide +kernel⟩
theorem q_782 : (Cond.code yX3_day prog_5_method_11_code (1 : Nat) (Option.some Jvm.ClassFile.FieldType.int)) ∈ lw_all := List.mem_filter.mpr ⟨List.mem_of_getElem? (i := 828) (by decide +kernel), by decide +kernel⟩
theorem q_783 : (Cond.methodLink "MilkRoundLaw" (139 : Nat) yX3_addVat) ∈ lw_all := List.mem_filter.mpr ⟨List.mem_of_getElem? (i := 829) (by decide +kernel), by decide +kernel⟩
theorem q_784 : (Cond.instanceMethod yX3_addVat) ∈ lw_all := List.mem_filter.mpr ⟨List.mem_of_getElem? (i := 830) (by decide +kernel), by decide +kernel⟩
theorem q_785 : (Cond.selects "MilkRoundModel" yX3_addVat yX3_addVat) ∈ lw_all := List.mem_filter.mpr ⟨List.mem_of_getElem? (i := 831) (by decide +kernel), by decide +kernel⟩
theorem q_786 : (Cond.code yX3_addVat prog_5_method_12_code (2 : Nat) (Option.some Jvm.ClassFile.FieldType.int)) ∈ lw_all := List.mem_filter.mpr ⟨List.mem_of_getElem? (i := 832) (by decide +kernel), by decide +kernel⟩
theorem q_787 : (Cond.constantLong "MilkRoundModel" (80 : Nat) (100 : Int64)) ∈ lw_all := List.mem_filter.mpr ⟨List.mem_of_getElem? (i := 833) (by decide +kernel), by decide +kernel⟩
theorem q_788 : (Cond.constantLong "MilkRoundModel" (82 : Nat) (900 : Int64)) ∈ lw_all := List.mem_filter.mpr ⟨List.mem_of_getElem? (i := 834) (by decide +kernel), by decide +kernel⟩
theorem q_789 : (Cond.methodLink "MilkRoundLaw" (143 : Nat) yX3_beginRound) ∈ lw_all := List.mem_filter.mpr ⟨List.mem_of_getElem? (i := 835) (by decide +kernel), by decide +kernel⟩
theorem q_790 : (Cond.instanceMethod yX3_beginRound) ∈ lw_all := List.mem_filter.mpr ⟨List.mem_of_getElem? (i := 836) (by decide +kernel), by decide +kernel⟩
theorem q_791 : (Cond.selects "MilkRoundModel" yX3_beginRound yX3_beginRound) ∈ lw_all := List.mem_filter.mpr ⟨List.mem_of_getElem? (i := 837) (by decide +kernel), by decide +kernel⟩
theorem q_792 : (Cond.code yX3_beginRound prog_5_method_13_code (2 : Nat) (Option.some Jvm.ClassFile.FieldType.int)) ∈ lw_all := List.mem_filter.mpr ⟨List.mem_of_getElem? (i := 838) (by decide +kernel), by decide +kernel⟩
theorem q_793 : (Cond.methodLink "MilkRoundLaw" (146 : Nat) yX3_visit) ∈ lw_all := List.mem_filter.mpr ⟨List.mem_of_getElem? (i := 839) (by decide +kernel), by decide +kernel⟩
theorem q_794 : (Cond.instanceMethod yX3_visit) ∈ lw_all := List.mem_filter.mpr ⟨List.mem_of_getElem? (i := 840) (by decide +kernel), by decide +kernel⟩
theorem q_795 : (Cond.selects "MilkRoundModel" yX3_visit yX3_visit) ∈ lw_all := List.mem_filter.mpr ⟨List.mem_of_getElem? (i := 841) (by decide +kernel), by decide +kernel⟩
theorem q_796 : (Cond.code yX3_visit prog_5_method_14_code (4 : Nat) (Option.some Jvm.ClassFile.FieldType.int)) ∈ lw_all := List.mem_filter.mpr ⟨List.mem_of_getElem? (i := 842) (by decide +kernel), by decide +kernel⟩
theorem q_797 : (Cond.methodLink "MilkRoundLaw" (149 : Nat) yX3_endRound) ∈ lw_all := List.mem_filter.mpr ⟨List.mem_of_getElem? (i := 843) (by decide +kernel), by decide +kernel⟩
theorem q_798 : (Cond.instanceMethod yX3_endRound) ∈ lw_all := List.mem_filter.mpr ⟨List.mem_of_getElem? (i := 844) (by decide +kernel), by decide +kernel⟩
theorem q_799 : (Cond.selects "MilkRoundModel" yX3_endRound yX3_endRound) ∈ lw_all := List.mem_filter.mpr ⟨List.mem_of_getElem? (i := 845) (by decide +kernel), by decide +kernel⟩
theorem q_800 : (Cond.code yX3_endRound prog_5_method_17_code (4 : Nat) (Option.some Jvm.ClassFile.FieldType.int)) ∈ lw_all := List.mem_filter.mpr ⟨List.mem_of_getElem? (i := 846) (by decide +kernel), by decide +kernel⟩
theorem q_801 : (Cond.methodLink "MilkRoundModel" (100 : Nat) yX3_isVat) ∈ lw_all := List.mem_filter.mpr ⟨List.mem_of_getElem? (i := 847) (by decide +kernel), by decide +kernel⟩
theorem q_803 : (Cond.instanceMethod yX3_isVat) ∈ lw_all := List.mem_filter.mpr ⟨List.mem_of_getElem? (i := 849) (by decide +kernel), by decide +kernel⟩
theorem q_804 : (Cond.code yX3_isVat prog_5_method_15_code (2 : Nat) (Option.some Jvm.ClassFile.FieldType.boolean)) ∈ lw_all := List.mem_filter.mpr ⟨List.mem_of_getElem? (i := 850) (by decide +kernel), by decide +kernel⟩
theorem q_805 : (Cond.methodLink "MilkRoundModel" (103 : Nat) yX3_onWay) ∈ lw_all := List.mem_filter.mpr ⟨List.mem_of_getElem? (i := 851) (by decide +kernel), by decide +kernel⟩
theorem q_807 : (Cond.instanceMethod yX3_onWay) ∈ lw_all := List.mem_filter.mpr ⟨List.mem_of_getElem? (i := 853) (by decide +kernel), by decide +kernel⟩
theorem q_808 : (Cond.code yX3_onWay prog_5_method_16_code (4 : Nat) (Option.some Jvm.ClassFile.FieldType.int)) ∈ lw_all := List.mem_filter.mpr ⟨List.mem_of_getElem? (i := 854) (by decide +kernel), by decide +kernel⟩
theorem q_809 : (Cond.methodLink "MilkRoundLaw" (153 : Nat) yX3_inTanker) ∈ lw_all := List.mem_filter.mpr ⟨List.mem_of_getElem? (i := 855) (by decide +kernel), by decide +kernel⟩
theorem q_810 : (Cond.instanceMethod yX3_inTanker) ∈ lw_all := List.mem_filter.mpr ⟨List.mem_of_getElem? (i := 856) (by decide +kernel), by decide +kernel⟩
theorem q_811 : (Cond.selects "MilkRoundModel" yX3_inTanker yX3_inTanker) ∈ lw_all := List.mem_filter.mpr ⟨List.mem_of_getElem? (i := 857) (by decide +kernel), by decide +kernel⟩
theorem q_812 : (Cond.code yX3_inTanker prog_5_method_18_code (1 : Nat) (Option.some Jvm.ClassFile.FieldType.int)) ∈ lw_all := List.mem_filter.mpr ⟨List.mem_of_getElem? (i := 858) (by decide +kernel), by decide +kernel⟩
theorem q_813 : (Cond.methodLink "MilkRoundLaw" (156 : Nat) yX3_inVat) ∈ lw_all := List.mem_filter.mpr ⟨List.mem_of_getElem? (i := 859) (by decide +kernel), by decide +kernel⟩
theorem q_814 : (Cond.instanceMethod yX3_inVat) ∈ lw_all := List.mem_filter.mpr ⟨List.mem_of_getElem? (i := 860) (by decide +kernel), by decide +kernel⟩
theorem q_815 : (Cond.selects "MilkRoundModel" yX3_inVat yX3_inVat) ∈ lw_all := List.mem_filter.mpr ⟨List.mem_of_getElem? (i := 861) (by decide +kernel), by decide +kernel⟩
theorem q_816 : (Cond.code yX3_inVat prog_5_method_19_code (2 : Nat) (Option.some Jvm.ClassFile.FieldType.int)) ∈ lw_all := List.mem_filter.mpr ⟨List.mem_of_getElem? (i := 862) (by decide +kernel), by decide +kernel⟩
theorem q_817 : (Cond.methodLink "MilkRoundLaw" (159 : Nat) yX3_bestVat) ∈ lw_all := List.mem_filter.mpr ⟨List.mem_of_getElem? (i := 863) (by decide +kernel), by decide +kernel⟩
theorem q_818 : (Cond.instanceMethod yX3_bestVat) ∈ lw_all := List.mem_filter.mpr ⟨List.mem_of_getElem? (i := 864) (by decide +kernel), by decide +kernel⟩
theorem q_819 : (Cond.selects "MilkRoundModel" yX3_bestVat yX3_bestVat) ∈ lw_all := List.mem_filter.mpr ⟨List.mem_of_getElem? (i := 865) (by decide +kernel), by decide +kernel⟩
theorem q_820 : (Cond.code yX3_bestVat prog_5_method_20_code (5 : Nat) (Option.some Jvm.ClassFile.FieldType.int)) ∈ lw_all := List.mem_filter.mpr ⟨List.mem_of_getElem? (i := 866) (by decide +kernel), by decide +kernel⟩
theorem q_821 : (Cond.methodLink "MilkRoundLaw" (162 : Nat) yX3_close) ∈ lw_all := List.mem_filter.mpr ⟨List.mem_of_getElem? (i := 867) (by decide +kernel), by decide +kernel⟩
theorem q_822 : (Cond.instanceMethod yX3_close) ∈ lw_all := List.mem_filter.mpr ⟨List.mem_of_getElem? (i := 868) (by decide +kernel), by decide +kernel⟩
theorem q_823 : (Cond.selects "MilkRoundModel" yX3_close yX3_close) ∈ lw_all := List.mem_filter.mpr ⟨List.mem_of_getElem? (i := 869) (by decide +kernel), by decide +kernel⟩
theorem q_824 : (Cond.code yX3_close prog_5_method_21_code (3 : Nat) (Option.some Jvm.ClassFile.FieldType.int)) ∈ lw_all := List.mem_filter.mpr ⟨List.mem_of_getElem? (i := 870) (by decide +kernel), by decide +kernel⟩
theorem q_825 : (Cond.methodLink "MilkRoundLaw" (166 : Nat) yX3_samples) ∈ lw_all := List.mem_filter.mpr ⟨List.mem_of_getElem? (i := 871) (by decide +kernel), by decide +kernel⟩
theorem q_826 : (Cond.instanceMethod yX3_samples) ∈ lw_all := List.mem_filter.mpr ⟨List.mem_of_getElem? (i := 872) (by decide +kernel), by decide +kernel⟩
theorem q_827 : (Cond.selects "MilkRoundModel" yX3_samples yX3_samples) ∈ lw_all := List.mem_filter.mpr ⟨List.mem_of_getElem? (i := 873) (by decide +kernel), by decide +kernel⟩
theorem q_828 : (Cond.code yX3_samples prog_5_method_22_code (1 : Nat) (Option.some Jvm.ClassFile.FieldType.int)) ∈ lw_all := List.mem_filter.mpr ⟨List.mem_of_getElem? (i := 874) (by decide +kernel), by decide +kernel⟩
theorem q_829 : (Cond.methodLink "MilkRoundLaw" (169 : Nat) yX3_farmOf) ∈ lw_all := List.mem_filter.mpr ⟨List.mem_of_getElem? (i := 875) (by decide +kernel), by decide +kernel⟩
theorem q_830 : (Cond.instanceMethod yX3_farmOf) ∈ lw_all := List.mem_filter.mpr ⟨List.mem_of_getElem? (i := 876) (by decide +kernel), by decide +kernel⟩
theorem q_831 : (Cond.selects "MilkRoundModel" yX3_farmOf yX3_farmOf) ∈ lw_all := List.mem_filter.mpr ⟨List.mem_of_getElem? (i := 877) (by decide +kernel), by decide +kernel⟩
theorem q_832 : (Cond.code yX3_farmOf prog_5_method_24_code (2 : Nat) (Option.some Jvm.ClassFile.FieldType.int)) ∈ lw_all := List.mem_filter.mpr ⟨List.mem_of_getElem? (i := 878) (by decide +kernel), by decide +kernel⟩
theorem q_833 : (Cond.methodLink "MilkRoundModel" (110 : Nat) yX3_isSample) ∈ lw_all := List.mem_filter.mpr ⟨List.mem_of_getElem? (i := 879) (by decide +kernel), by decide +kernel⟩
theorem q_835 : (Cond.instanceMethod yX3_isSample) ∈ lw_all := List.mem_filter.mpr ⟨List.mem_of_getElem? (i := 881) (by decide +kernel), by decide +kernel⟩
theorem q_836 : (Cond.code yX3_isSample prog_5_method_23_code (2 : Nat) (Option.some Jvm.ClassFile.FieldType.boolean)) ∈ lw_all := List.mem_filter.mpr ⟨List.mem_of_getElem? (i := 882) (by decide +kernel), by decide +kernel⟩
theorem q_837 : (Cond.methodLink "MilkRoundLaw" (172 : Nat) yX3_litres) ∈ lw_all := List.mem_filter.mpr ⟨List.mem_of_getElem? (i := 883) (by decide +kernel), by decide +kernel⟩
theorem q_838 : (Cond.instanceMethod yX3_litres) ∈ lw_all := List.mem_filter.mpr ⟨List.mem_of_getElem? (i := 884) (by decide +kernel), by decide +kernel⟩
theorem q_839 : (Cond.selects "MilkRoundModel" yX3_litres yX3_litres) ∈ lw_all := List.mem_filter.mpr ⟨List.mem_of_getElem? (i := 885) (by decide +kernel), by decide +kernel⟩
theorem q_840 : (Cond.code yX3_litres prog_5_method_25_code (2 : Nat) (Option.some Jvm.ClassFile.FieldType.int)) ∈ lw_all := List.mem_filter.mpr ⟨List.mem_of_getElem? (i := 886) (by decide +kernel), by decide +kernel⟩
theorem q_841 : (Cond.methodLink "MilkRoundLaw" (176 : Nat) yX3_grade) ∈ lw_all := List.mem_filter.mpr ⟨List.mem_of_getElem? (i := 887) (by decide +kernel), by decide +kernel⟩
theorem q_842 : (Cond.instanceMethod yX3_grade) ∈ lw_all := List.mem_filter.mpr ⟨List.mem_of_getElem? (i := 888) (by decide +kernel), by decide +kernel⟩
theorem q_843 : (Cond.selects "MilkRoundModel" yX3_grade yX3_grade) ∈ lw_all := List.mem_filter.mpr ⟨List.mem_of_getElem? (i := 889) (by decide +kernel), by decide +kernel⟩
theorem q_844 : (Cond.code yX3_grade prog_5_method_26_code (6 : Nat) (Option.some Jvm.ClassFile.FieldType.int)) ∈ lw_all := List.mem_filter.mpr ⟨List.mem_of_getElem? (i := 890) (by decide +kernel), by decide +kernel⟩
theorem q_845 : (Cond.methodLink "MilkRoundLaw" (179 : Nat) yX3_gradeOf) ∈ lw_all := List.mem_filter.mpr ⟨List.mem_of_getElem? (i := 891) (by decide +kernel), by decide +kernel⟩
theorem q_846 : (Cond.instanceMethod yX3_gradeOf) ∈ lw_all := List.mem_filter.mpr ⟨List.mem_of_getElem? (i := 892) (by decide +kernel), by decide +kernel⟩
theorem q_847 : (Cond.selects "MilkRoundModel" yX3_gradeOf yX3_gradeOf) ∈ lw_all := List.mem_filter.mpr ⟨List.mem_of_getElem? (i := 893) (by decide +kernel), by decide +kernel⟩
theorem q_848 : (Cond.code yX3_gradeOf prog_5_method_27_code (2 : Nat) (Option.some Jvm.ClassFile.FieldType.char)) ∈ lw_all := List.mem_filter.mpr ⟨List.mem_of_getElem? (i := 894) (by decide +kernel), by decide +kernel⟩
theorem q_849 : (Cond.methodLink "MilkRoundLaw" (183 : Nat) yX3_batches) ∈ lw_all := List.mem_filter.mpr ⟨List.mem_of_getElem? (i := 895) (by decide +kernel), by decide +kernel⟩
theorem q_850 : (Cond.instanceMethod yX3_batches) ∈ lw_all := List.mem_filter.mpr ⟨List.mem_of_getElem? (i := 896) (by decide +kernel), by decide +kernel⟩
theorem q_851 : (Cond.selects "MilkRoundModel" yX3_batches yX3_batches) ∈ lw_all := List.mem_filter.mpr ⟨List.mem_of_getElem? (i := 897) (by decide +kernel), by decide +kernel⟩
theorem q_852 : (Cond.code yX3_batches prog_5_method_28_code (1 : Nat) (Option.some Jvm.ClassFile.FieldType.int)) ∈ lw_all := List.mem_filter.mpr ⟨List.mem_of_getElem? (i := 898) (by decide +kernel), by decide +kernel⟩
theorem q_853 : (Cond.methodLink "MilkRoundLaw" (186 : Nat) yX3_stateOf) ∈ lw_all := List.mem_filter.mpr ⟨List.mem_of_getElem? (i := 899) (by decide +kernel), by decide +kernel⟩
theorem q_854 : (Cond.instanceMethod yX3_stateOf) ∈ lw_all := List.mem_filter.mpr ⟨List.mem_of_getElem? (i := 900) (by decide +kernel), by decide +kernel⟩
theorem q_855 : (Cond.selects "MilkRoundModel" yX3_stateOf yX3_stateOf) ∈ lw_all := List.mem_filter.mpr ⟨List.mem_of_getElem? (i := 901) (by decide +kernel), by decide +kernel⟩
theorem q_856 : (Cond.code yX3_stateOf prog_5_method_31_code (2 : Nat) (Option.some Jvm.ClassFile.FieldType.char)) ∈ lw_all := List.mem_filter.mpr ⟨List.mem_of_getElem? (i := 902) (by decide +kernel), by decide +kernel⟩
theorem q_857 : (Cond.methodLink "MilkRoundModel" (113 : Nat) yX3_isBatch) ∈ lw_all := List.mem_filter.mpr ⟨List.mem_of_getElem? (i := 903) (by decide +kernel), by decide +kernel⟩
theorem q_859 : (Cond.instanceMethod yX3_isBatch) ∈ lw_all := List.mem_filter.mpr ⟨List.mem_of_getElem? (i := 905) (by decide +kernel), by decide +kernel⟩
theorem q_860 : (Cond.code yX3_isBatch prog_5_method_30_code (2 : Nat) (Option.some Jvm.ClassFile.FieldType.boolean)) ∈ lw_all := List.mem_filter.mpr ⟨List.mem_of_getElem? (i := 906) (by decide +kernel), by decide +kernel⟩
theorem q_861 : (Cond.methodLink "MilkRoundModel" (116 : Nat) yX3_has) ∈ lw_all := List.mem_filter.mpr ⟨List.mem_of_getElem? (i := 907) (by decide +kernel), by decide +kernel⟩
theorem q_863 : (Cond.instanceMethod yX3_has) ∈ lw_all := List.mem_filter.mpr ⟨List.mem_of_getElem? (i := 909) (by decide +kernel), by decide +kernel⟩
theorem q_864 : (Cond.code yX3_has prog_5_method_29_code (5 : Nat) (Option.some Jvm.ClassFile.FieldType.boolean)) ∈ lw_all := List.mem_filter.mpr ⟨List.mem_of_getElem? (i := 910) (by decide +kernel), by decide +kernel⟩
theorem q_865 : (Cond.methodLink "MilkRoundLaw" (189 : Nat) yX3_share) ∈ lw_all := List.mem_filter.mpr ⟨List.mem_of_getElem? (i := 911) (by decide +kernel), by decide +kernel⟩
theorem q_866 : (Cond.instanceMethod yX3_share) ∈ lw_all := List.mem_filter.mpr ⟨List.mem_of_getElem? (i := 912) (by decide +kernel), by decide +kernel⟩
theorem q_867 : (Cond.selects "MilkRoundModel" yX3_share yX3_share) ∈ lw_all := List.mem_filter.mpr ⟨List.mem_of_getElem? (i := 913) (by decide +kernel), by decide +kernel⟩
theorem q_868 : (Cond.code yX3_share prog_5_method_32_code (5 : Nat) (Option.some Jvm.ClassFile.FieldType.int)) ∈ lw_all := List.mem_filter.mpr ⟨List.mem_of_getElem? (i := 914) (by decide +kernel), by decide +kernel⟩
theorem q_869 : (Cond.methodLink "MilkRoundLaw" (192 : Nat) yX3_worth) ∈ lw_all := List.mem_filter.mpr ⟨List.mem_of_getElem? (i := 915) (by decide +kernel), by decide +kernel⟩
theorem q_870 : (Cond.instanceMethod yX3_worth) ∈ lw_all := List.mem_filter.mpr ⟨List.mem_of_getElem? (i := 916) (by decide +kernel), by decide +kernel⟩
theorem q_871 : (Cond.selects "MilkRoundModel" yX3_worth yX3_worth) ∈ lw_all := List.mem_filter.mpr ⟨List.mem_of_getElem? (i := 917) (by decide +kernel), by decide +kernel⟩
theorem q_872 : (Cond.code yX3_worth prog_5_method_38_code (4 : Nat) (Option.some Jvm.ClassFile.FieldType.int)) ∈ lw_all := List.mem_filter.mpr ⟨List.mem_of_getElem? (i := 918) (by decide +kernel), by decide +kernel⟩
theorem q_873 : (Cond.methodLink "MilkRoundModel" (126 : Nat) yX3_isGraded) ∈ lw_all := List.mem_filter.mpr ⟨List.mem_of_getElem? (i := 919) (by decide +kernel), by decide +kernel⟩
theorem q_875 : (Cond.instanceMethod yX3_isGraded) ∈ lw_all := List.mem_filter.mpr ⟨List.mem_of_getElem? (i := 921) (by decide +kernel), by decide +kernel⟩
theorem q_876 : (Cond.code yX3_isGraded prog_5_method_37_code (2 : Nat) (Option.some Jvm.ClassFile.FieldType.boolean)) ∈ lw_all := List.mem_filter.mpr ⟨List.mem_of_getElem? (i := 922) (by decide +kernel), by decide +kernel⟩
theorem q_877 : (Cond.methodLink "MilkRoundModel" (129 : Nat) yX3_payOf) ∈ lw_all := List.mem_filter.mpr ⟨List.mem_of_getElem? (i := 923) (by decide +kernel), by decide +kernel⟩
theorem q_879 : (Cond.instanceMethod yX3_payOf) ∈ lw_all := List.mem_filter.mpr ⟨List.mem_of_getElem? (i := 925) (by decide +kernel), by decide +kernel⟩
theorem q_880 : (Cond.code yX3_payOf prog_5_method_34_code (2 : Nat) (Option.some Jvm.ClassFile.FieldType.int)) ∈ lw_all := List.mem_filter.mpr ⟨List.mem_of_getElem? (i := 926) (by decide +kernel), by decide +kernel⟩
theorem q_881 : (Cond.methodLink "MilkRoundModel" (120 : Nat) yX3_worthOf) ∈ lw_all := List.mem_filter.mpr ⟨List.mem_of_getElem? (i := 927) (by decide +kernel), by decide +kernel⟩
theorem q_883 : (Cond.instanceMethod yX3_worthOf) ∈ lw_all := List.mem_filter.mpr ⟨List.mem_of_getElem? (i := 929) (by decide +kernel), by decide +kernel⟩
theorem q_884 : (Cond.code yX3_worthOf prog_5_method_33_code (3 : Nat) (Option.some Jvm.ClassFile.FieldType.int)) ∈ lw_all := List.mem_filter.mpr ⟨List.mem_of_getElem? (i := 930) (by decide +kernel), by decide +kernel⟩
theorem q_885 : (Cond.methodLink "MilkRoundLaw" (195 : Nat) yX3_loss) ∈ lw_all := List.mem_filter.mpr ⟨List.mem_of_getElem? (i := 931) (by decide +kernel), by decide +kernel⟩
theorem q_886 : (Cond.instanceMethod yX3_loss) ∈ lw_all := List.mem_filter.mpr ⟨List.mem_of_getElem? (i := 932) (by decide +kernel), by decide +kernel⟩
theorem q_887 : (Cond.selects "MilkRoundModel" yX3_loss yX3_loss) ∈ lw_all := List.mem_filter.mpr ⟨List.mem_of_getElem? (i := 933) (by decide +kernel), by decide +kernel⟩
theorem q_888 : (Cond.code yX3_loss prog_5_method_39_code (2 : Nat) (Option.some Jvm.ClassFile.FieldType.int)) ∈ lw_all := List.mem_filter.mpr ⟨List.mem_of_getElem? (i := 934) (by decide +kernel), by decide +kernel⟩
theorem q_889 : (Cond.methodLink "MilkRoundModel" (123 : Nat) yX3_lossOf) ∈ lw_all := List.mem_filter.mpr ⟨List.mem_of_getElem? (i := 935) (by decide +kernel), by decide +kernel⟩
theorem q_891 : (Cond.instanceMethod yX3_lossOf) ∈ lw_all := List.mem_filter.mpr ⟨List.mem_of_getElem? (i := 937) (by decide +kernel), by decide +kernel⟩
theorem q_892 : (Cond.code yX3_lossOf prog_5_method_35_code (4 : Nat) (Option.some Jvm.ClassFile.FieldType.int)) ∈ lw_all := List.mem_filter.mpr ⟨List.mem_of_getElem? (i := 938) (by decide +kernel), by decide +kernel⟩
theorem q_893 : (Cond.methodLink "MilkRoundLaw" (198 : Nat) yX3_pay) ∈ lw_all := List.mem_filter.mpr ⟨List.mem_of_getElem? (i := 939) (by decide +kernel), by decide +kernel⟩
theorem q_894 : (Cond.instanceMethod yX3_pay) ∈ lw_all := List.mem_filter.mpr ⟨List.mem_of_getElem? (i := 940) (by decide +kernel), by decide +kernel⟩
theorem q_895 : (Cond.selects "MilkRoundModel" yX3_pay yX3_pay) ∈ lw_all := List.mem_filter.mpr ⟨List.mem_of_getElem? (i := 941) (by decide +kernel), by decide +kernel⟩
theorem q_896 : (Cond.code yX3_pay prog_5_method_41_code (5 : Nat) (Option.some Jvm.ClassFile.FieldType.long)) ∈ lw_all := List.mem_filter.mpr ⟨List.mem_of_getElem? (i := 942) (by decide +kernel), by decide +kernel⟩
theorem q_897 : (Cond.constantLong "MilkRoundModel" (132 : Nat) (-1 : Int64)) ∈ lw_all := List.mem_filter.mpr ⟨List.mem_of_getElem? (i := 943) (by decide +kernel), by decide +kernel⟩
theorem q_898 : (Cond.methodLink "MilkRoundModel" (134 : Nat) yX3_counts) ∈ lw_all := List.mem_filter.mpr ⟨List.mem_of_getElem? (i := 944) (by decide +kernel), by decide +kernel⟩
theorem q_900 : (Cond.instanceMethod yX3_counts) ∈ lw_all := List.mem_filter.mpr ⟨List.mem_of_getElem? (i := 946) (by decide +kernel), by decide +kernel⟩
theorem q_901 : (Cond.code yX3_counts prog_5_method_40_code (3 : Nat) (Option.some Jvm.ClassFile.FieldType.boolean)) ∈ lw_all := List.mem_filter.mpr ⟨List.mem_of_getElem? (i := 947) (by decide +kernel), by decide +kernel⟩
theorem q_902 : (Cond.methodLink "MilkRoundLaw" (201 : Nat) yX3_blame) ∈ lw_all := List.mem_filter.mpr ⟨List.mem_of_getElem? (i := 948) (by decide +kernel), by decide +kernel⟩
theorem q_903 : (Cond.instanceMethod yX3_blame) ∈ lw_all := List.mem_filter.mpr ⟨List.mem_of_getElem? (i := 949) (by decide +kernel), by decide +kernel⟩
theorem q_904 : (Cond.selects "MilkRoundModel" yX3_blame yX3_blame) ∈ lw_all := List.mem_filter.mpr ⟨List.mem_of_getElem? (i := 950) (by decide +kernel), by decide +kernel⟩
theorem q_905 : (Cond.code yX3_blame prog_5_method_42_code (5 : Nat) (Option.some Jvm.ClassFile.FieldType.long)) ∈ lw_all := List.mem_filter.mpr ⟨List.mem_of_getElem? (i := 951) (by decide +kernel), by decide +kernel⟩
theorem q_906 : (Cond.methodLink "MilkRoundModel" (138 : Nat) yX3_blameOf) ∈ lw_all := List.mem_filter.mpr ⟨List.mem_of_getElem? (i := 952) (by decide +kernel), by decide +kernel⟩
theorem q_908 : (Cond.instanceMethod yX3_blameOf) ∈ lw_all := List.mem_filter.mpr ⟨List.mem_of_getElem? (i := 954) (by decide +kernel), by decide +kernel⟩
theorem q_909 : (Cond.code yX3_blameOf prog_5_method_36_code (9 : Nat) (Option.some Jvm.ClassFile.FieldType.int)) ∈ lw_all := List.mem_filter.mpr ⟨List.mem_of_getElem? (i := 955) (by decide +kernel), by decide +kernel⟩
theorem q_910 : (Cond.methodLink "MilkRoundLaw" (204 : Nat) yX3_balanceBySamples) ∈ lw_all := List.mem_filter.mpr ⟨List.mem_of_getElem? (i := 956) (by decide +kernel), by decide +kernel⟩
theorem q_911 : (Cond.instanceMethod yX3_balanceBySamples) ∈ lw_all := List.mem_filter.mpr ⟨List.mem_of_getElem? (i := 957) (by decide +kernel), by decide +kernel⟩
theorem q_912 : (Cond.selects "MilkRoundModel" yX3_balanceBySamples yX3_balanceBySamples) ∈ lw_all := List.mem_filter.mpr ⟨List.mem_of_getElem? (i := 958) (by decide +kernel), by decide +kernel⟩
theorem q_913 : (Cond.code yX3_balanceBySamples prog_5_method_43_code (2 : Nat) (Option.some Jvm.ClassFile.FieldType.long)) ∈ lw_all := List.mem_filter.mpr ⟨List.mem_of_getElem? (i := 959) (by decide +kernel), by decide +kernel⟩
theorem q_914 : (Cond.methodLink "MilkRoundModel" (141 : Nat) yX3_pay) ∈ lw_all := List.mem_filter.mpr ⟨List.mem_of_getElem? (i := 960) (by decide +kernel), by decide +kernel⟩
theorem q_915 : (Cond.methodLink "MilkRoundModel" (145 : Nat) yX3_blame) ∈ lw_all := List.mem_filter.mpr ⟨List.mem_of_getElem? (i := 961) (by decide +kernel), by decide +kernel⟩
theorem q_916 : (Cond.methodLink "MilkRoundLaw" (207 : Nat) yX3_wayOf) ∈ lw_all := List.mem_filter.mpr ⟨List.mem_of_getElem? (i := 962) (by decide +kernel), by decide +kernel⟩
theorem q_917 : (Cond.instanceMethod yX3_wayOf) ∈ lw_all := List.mem_filter.mpr ⟨List.mem_of_getElem? (i := 963) (by decide +kernel), by decide +kernel⟩
theorem q_918 : (Cond.selects "MilkRoundModel" yX3_wayOf yX3_wayOf) ∈ lw_all := List.mem_filter.mpr ⟨List.mem_of_getElem? (i := 964) (by decide +kernel), by decide +kernel⟩
theorem q_919 : (Cond.code yX3_wayOf prog_5_method_44_code (2 : Nat) (Option.some Jvm.ClassFile.FieldType.char)) ∈ lw_all := List.mem_filter.mpr ⟨List.mem_of_getElem? (i := 965) (by decide +kernel), by decide +kernel⟩
theorem q_920 : (Cond.methodLink "MilkRoundLaw" (211 : Nat) yX3_spoiltShare) ∈ lw_all := List.mem_filter.mpr ⟨List.mem_of_getElem? (i := 966) (by decide +kernel), by decide +kernel⟩
theorem q_921 : (Cond.instanceMethod yX3_spoiltShare) ∈ lw_all := List.mem_filter.mpr ⟨List.mem_of_getElem? (i := 967) (by decide +kernel), by decide +kernel⟩
theorem q_922 : (Cond.selects "MilkRoundModel" yX3_spoiltShare yX3_spoiltShare) ∈ lw_all := List.mem_filter.mpr ⟨List.mem_of_getElem? (i := 968) (by decide +kernel), by decide +kernel⟩
theorem q_923 : (Cond.code yX3_spoiltShare prog_5_method_45_code (4 : Nat) (Option.some Jvm.ClassFile.FieldType.float)) ∈ lw_all := List.mem_filter.mpr ⟨List.mem_of_getElem? (i := 969) (by decide +kernel), by decide +kernel⟩
theorem q_924 : (Cond.methodLink "MilkRoundLaw" (214 : Nat) yX3_meanPay) ∈ lw_all := List.mem_filter.mpr ⟨List.mem_of_getElem? (i := 970) (by decide +kernel), by decide +kernel⟩
theorem q_925 : (Cond.instanceMethod yX3_meanPay) ∈ lw_all := List.mem_filter.mpr ⟨List.mem_of_getElem? (i := 971) (by decide +kernel), by decide +kernel⟩
theorem q_926 : (Cond.selects "MilkRoundModel" yX3_meanPay yX3_meanPay) ∈ lw_all := List.mem_filter.mpr ⟨List.mem_of_getElem? (i := 972) (by decide +kernel), by decide +kernel⟩
theorem q_927 : (Cond.code yX3_meanPay prog_5_method_46_code (5 : Nat) (Option.some Jvm.ClassFile.FieldType.double)) ∈ lw_all := List.mem_filter.mpr ⟨List.mem_of_getElem? (i := 973) (by decide +kernel), by decide +kernel⟩
theorem q_928 : (Cond.arrayClass Jvm.ClassFile.FieldType.long) ∈ lw_all := List.mem_filter.mpr ⟨List.mem_of_getElem? (i := 974) (by decide +kernel), by decide +kernel⟩
theorem q_929 : (Cond.arrayClass Jvm.ClassFile.FieldType.double) ∈ lw_all := List.mem_filter.mpr ⟨List.mem_of_getElem? (i := 975) (by decide +kernel), by decide +kernel⟩
theorem inX0 : ∀ w ∈ wsX00, w ∈ lw_all := fun w h => List.mem_filter.mpr ⟨(show ∀ w ∈ wsX00, w ∈ lw_tbl by decide +kernel) w h, (show ∀ w ∈ wsX00, goodWord w = true by decide +kernel) w h⟩
theorem inX1 : ∀ w ∈ wsX10, w ∈ lw_all := fun w h => List.mem_filter.mpr ⟨(show ∀ w ∈ wsX10, w ∈ lw_tbl by decide +kernel) w h, (show ∀ w ∈ wsX10, goodWord w = true by decide +kernel) w h⟩
theorem inX2 : ∀ w ∈ wsX20, w ∈ lw_all := fun w h => List.mem_filter.mpr ⟨(show ∀ w ∈ wsX20, w ∈ lw_tbl by decide +kernel) w h, (show ∀ w ∈ wsX20, goodWord w = true by decide +kernel) w h⟩
theorem inX3 : ∀ w ∈ wsX30, w ∈ lw_all := fun w h => List.mem_filter.mpr ⟨(show ∀ w ∈ wsX30, w ∈ lw_tbl by decide +kernel) w h, (show ∀ w ∈ wsX30, goodWord w = true by decide +kernel) w h⟩
end
section
def kNF : List (Nat × String × String × String) := [(55, "MilkRound$Farms", "count", "I"), (87, "MilkRound$Farms", "tanks", "[I"), (73, "MilkRound$Farms", "cows", "[I"), (105, "MilkRound$Samples", "count", "I"), (160, "MilkRound$Samples", "farm", "[I"), (163, "MilkRound$Samples", "amount", "[I"), (168, "MilkRound$Samples", "mark", "[C"), (174, "MilkRound$Samples", "place", "[C"), (177, "MilkRound$Samples", "number", "[I")]
def kNM : List (Nat × MethodName) := [(15, yX0_init), (40, yX1_init), (142, yX1_litresIn), (63, yX0_add), (78, yX0_addCowTo), (84, yX0_milkOn), (92, yX0_milkAll), (112, yX0_draw), (115, yX1_add), (129, yX1_countIn), (135, yX1_move), (154, yX1_settle), (180, yX1_ungraded), (186, yX1_isSpoilt), (190, yX1_isGraded), (193, yX1_shareAt), (201, yX1_payOfAll), (204, yX1_lossOf), (207, yX1_paidTo), (210, yX1_blamedOn), (213, yX1_balanceOf), (217, yX1_allLitres)]
def kCa : List (String × String) := [("java/lang/IllegalArgumentException", "java/lang/IllegalArgumentException"), ("java/lang/IllegalStateException", "java/lang/IllegalStateException"), ("java/lang/ArrayIndexOutOfBoundsException", "java/lang/ArrayIndexOutOfBoundsException"), ("java/lang/IndexOutOfBoundsException", "java/lang/IndexOutOfBoundsException"), ("java/lang/UnsupportedOperationException", "java/lang/UnsupportedOperationException"), ("java/util/NoSuchElementException", "java/util/NoSuchElementException"), ("java/lang/ArithmeticException", "java/lang/ArithmeticException"), ("java/lang/ArrayIndexOutOfBoundsException", "java/lang/IndexOutOfBoundsException"), ("MilkRound", "java/lang/Object"), ("MilkRound$Farms", "java/lang/Object"), ("MilkRound$Samples", "java/lang/Object"), ("MilkRoundModel", "java/lang/Object"), ("java/lang/IllegalArgumentException", "java/lang/Object"), ("java/lang/IllegalStateException", "java/lang/Object"), ("java/lang/ArrayIndexOutOfBoundsException", "java/lang/Object"), ("java/lang/IndexOutOfBoundsException", "java/lang/Object"), ("java/lang/UnsupportedOperationException", "java/lang/Object"), ("java/util/NoSuchElementException", "java/lang/Object"), ("java/lang/ArithmeticException", "java/lang/Object"), ("java/lang/Throwable", "java/lang/Object"), ("java/lang/String", "java/lang/Object")]
def kDe : List MethodName := [⟨"java/lang/RuntimeException", "<init>", "()V"⟩, ⟨"java/lang/RuntimeException", "<init>", "(Ljava/lang/String;)V"⟩, ⟨"java/lang/Exception", "<init>", "()V"⟩, ⟨"java/lang/Exception", "<init>", "(Ljava/lang/String;)V"⟩, ⟨"java/lang/Throwable", "<init>", "()V"⟩, ⟨"java/lang/Throwable", "<init>", "(Ljava/lang/String;)V"⟩, ⟨"java/lang/IndexOutOfBoundsException", "<init>", "()V"⟩, ⟨"java/lang/IndexOutOfBoundsException", "<init>", "(Ljava/lang/String;)V"⟩]
def kSt : List (Nat × String) := [(50, "a tank holds 10 to 200 litres"), (60, "there are 6 farms"), (229, "no such farm"), (71, "a cow's best is 5 to 30"), (76, "the farm has 5 cows"), (82, "a day is 0 to 999"), (90, "1 to 30 days pass, up to the day 999"), (95, "a vat holds 100 to 900 litres"), (97, "there are 4 vats"), (99, "a round is under way"), (101, "no round is under way"), (103, "the round visited this farm"), (106, "100 samples were taken"), (232, "no such vat"), (126, "the vat has no room for all of it"), (133, "the vat would have more than 60 shares"), (147, "no vat has room for what is in the tanker"), (150, "the vat is empty"), (152, "there are 20 batches"), (234, "no such sample"), (166, "a grade is a, b, c or x"), (172, "the sample has a grade"), (236, "no such batch"), (196, "the batch has no such share"), (238, "a sample of the batch has no grade"), (222, "there are no samples"), (225, "no batch has all its grades")]
def kNc : List (String × String) := [("java/lang/IllegalStateException", "java/lang/IllegalArgumentException"), ("java/lang/ArrayIndexOutOfBoundsException", "java/lang/IllegalArgumentException"), ("java/lang/IndexOutOfBoundsException", "java/lang/IllegalArgumentException"), ("java/lang/UnsupportedOperationException", "java/lang/IllegalArgumentException"), ("java/util/NoSuchElementException", "java/lang/IllegalArgumentException"), ("java/lang/ArithmeticException", "java/lang/IllegalArgumentException"), ("java/lang/IllegalArgumentException", "java/lang/IllegalStateException"), ("java/lang/ArrayIndexOutOfBoundsException", "java/lang/IllegalStateException"), ("java/lang/IndexOutOfBoundsException", "java/lang/IllegalStateException"), ("java/lang/UnsupportedOperationException", "java/lang/IllegalStateException"), ("java/util/NoSuchElementException", "java/lang/IllegalStateException"), ("java/lang/ArithmeticException", "java/lang/IllegalStateException"), ("java/lang/IllegalArgumentException", "java/lang/IndexOutOfBoundsException"), ("java/lang/IllegalStateException", "java/lang/IndexOutOfBoundsException"), ("java/lang/UnsupportedOperationException", "java/lang/IndexOutOfBoundsException"), ("java/util/NoSuchElementException", "java/lang/IndexOutOfBoundsException"), ("java/lang/ArithmeticException", "java/lang/IndexOutOfBoundsException"), ("java/lang/IllegalArgumentException", "java/lang/UnsupportedOperationException"), ("java/lang/IllegalStateException", "java/lang/UnsupportedOperationException"), ("java/lang/ArrayIndexOutOfBoundsException", "java/lang/UnsupportedOperationException"), ("java/lang/IndexOutOfBoundsException", "java/lang/UnsupportedOperationException"), ("java/util/NoSuchElementException", "java/lang/UnsupportedOperationException"), ("java/lang/ArithmeticException", "java/lang/UnsupportedOperationException"), ("java/lang/IllegalArgumentException", "java/util/NoSuchElementException"), ("java/lang/IllegalStateException", "java/util/NoSuchElementException"), ("java/lang/ArrayIndexOutOfBoundsException", "java/util/NoSuchElementException"), ("java/lang/IndexOutOfBoundsException", "java/util/NoSuchElementException"), ("java/lang/UnsupportedOperationException", "java/util/NoSuchElementException"), ("java/lang/ArithmeticException", "java/util/NoSuchElementException"), ("java/lang/IllegalArgumentException", "java/lang/ArithmeticException"), ("java/lang/IllegalStateException", "java/lang/ArithmeticException"), ("java/lang/ArrayIndexOutOfBoundsException", "java/lang/ArithmeticException"), ("java/lang/IndexOutOfBoundsException", "java/lang/ArithmeticException"), ("java/lang/UnsupportedOperationException", "java/lang/ArithmeticException"), ("java/util/NoSuchElementException", "java/lang/ArithmeticException")]
theorem kAO_spec {t : FieldType} {U : State} (h : va_AOA t U) : ∃ comp c k, U.vm.findClass (FieldType.array t).toString = some comp ∧ (U.vm.classes.findIdx? fun (x : Class) => match x.kind with | .array component _ => component == comp | _ => false) = some c ∧ U.vm.classes[c]? = some k ∧ k.kind = .array comp (.array t) ∧ U.vm.findClass ("[" ++ (FieldType.array t).toString) = some c := by
  unfold va_AOA Cond.before at h
  simp only [Cond.holds, Cond.value, beq_iff_eq] at h
  cases hc : U.vm.findClass (FieldType.array t).toString with
  | none => simp [hc] at h
  | some comp =>
    simp only [hc, Option.bind_some, Option.bind_eq_some_iff, Option.map_eq_some_iff] at h
    obtain ⟨c, h1, k, h2, h3⟩ := h
    refine ⟨comp, c, k, rfl, h1, h2, ?_⟩
    split at h3
    · rename_i a b hk
      simp only [Bool.and_eq_true, decide_eq_true_eq] at h3
      obtain ⟨h3, h4⟩ := h3
      subst h3
      refine ⟨?_, h4⟩
      rw [hk]
      have h5 := Array.findIdx?_eq_some_iff_getElem.mp h1
      obtain ⟨h6, h7, -⟩ := h5
      rw [Array.getElem?_eq_getElem h6] at h2
      cases h2
      rw [hk] at h7
      simp only [beq_iff_eq] at h7
      rw [h7]
    · cases h3
theorem kidx_bare (vm : Vm) (comp : ClassId) : (vm.bare.classes.findIdx? fun (x : Class) => match x.kind with | .array component _ => component == comp | _ => false) = (vm.classes.findIdx? fun (x : Class) => match x.kind with | .array component _ => component == comp | _ => false) := by
  simp only [Vm.bare, Array.findIdx?_map]
  rfl
theorem va_AOA.moved {t : FieldType} {u U : State} (hvm : u.vm.Alike U.vm) (h : va_AOA t u) : va_AOA t U := by
  obtain ⟨comp, c, k, h1, h2, h3, h4, h5⟩ := kAO_spec h
  obtain ⟨k', hk', he⟩ := hvm.2.2 _ _ h3
  have hi : (U.vm.classes.findIdx? fun (x : Class) => match x.kind with | .array component _ => component == comp | _ => false) = some c := by
    rw [← kidx_bare]
    first | rw [hvm.bare_eq] | rw [← hvm.bare_eq]
    rw [kidx_bare]
    exact h2
  have hkind : k'.kind = .array comp (.array t) := by rw [he]; exact h4
  have f1 : U.vm.findClass (FieldType.array t).toString = some comp := by rw [hvm.findClass]; exact h1
  have f2 : U.vm.findClass ("[" ++ (FieldType.array t).toString) = some c := by rw [hvm.findClass]; exact h5
  unfold va_AOA Cond.before Cond.holds
  simp only [Cond.value]
  rw [f1, Option.bind_some]
  refine (congrArg (fun o : Option Nat => (o.bind (fun c => (U.vm.classes[c]?).map fun (k : Class) => match k.kind with | .array _ ty => decide (ty = FieldType.array t) && decide (U.vm.findClass ("[" ++ (FieldType.array t).toString) = some c) | _ => false) == some true)) hi).trans ?_
  simp [hk', hkind, f2]
def kK (D : va_G) (tys : List (ClassId × FieldType)) (U : State) : Prop := va_K D kCl tys U ∧ (∀ q ∈ kNF, va_Nw (.fieldLinkNest RX2 q.1 q.2.1 q.2.2.1 q.2.2.2 RX2) U) ∧ (∀ q ∈ kNM, va_Nw (.methodLinkNest RX2 q.1 q.2 RX2) U) ∧ (∀ q ∈ kCa, va_Nw (.castable q.1 q.2) U) ∧ (∀ q ∈ kDe, va_Nw (.declares q) U) ∧ (∀ q ∈ kSt, ∃ a, vk_R RX2 q.1 q.2 a U) ∧ (∀ q ∈ kNc, va_Nc q.1 q.2 U) ∧ va_AOA .int U
theorem kK.moved {D : va_G} {tys : List (ClassId × FieldType)} {s U : State} (hW : s.WarmedH U.vm) (h : kK D tys s) : kK D tys U := by
  obtain ⟨h1, h2, h3, h4, h5, h6, h7, h8⟩ := h
  exact ⟨va_K.moved hW.alike h1, fun q hq => va_Nw.warmF hW (h2 q hq), fun q hq => va_Nw.warmM hW (h3 q hq), fun q hq => va_Nw.warmC hW (h4 q hq), fun q hq => va_Nw.warmD hW (h5 q hq), fun q hq => by obtain ⟨a, ha⟩ := h6 q hq; exact ⟨a, vk_R.warm hW ha⟩, fun q hq => va_Nc.moved hW.alike (h7 q hq), va_AOA.moved hW.alike h8⟩
theorem kK.calling {D : va_G} {tys : List (ClassId × FieldType)} {U : State} {g : JFrame} {mk : MethodId} {a : Array Value} (h : kK D tys U) : kK D tys (U.calling g mk a) := kK.moved (s := U) (State.WarmedH.refl U) h
def kZ (A : Nat → Prop) (U : State) (H : Heap) : Prop := vx_Zq Bundle.tN "UNASSIGNED_STACK" Bundle.steD A U H ∧ vx_Zq Bundle.tN "SUPPRESSED_SENTINEL" Bundle.listD A U H
abbrev kTy (k : Nat → ClassId) : List (ClassId × FieldType) := [(k 0, .int), (k 1, .char), (k 2, .boolean), (k 3, .long), (k 4, .double), (k 5, .array .int)]
abbrev kRm (f lo : Nat) : Room := { frames := f, cells := 0, slots := 0, locals := lo }
abbrev kRmc (f lo mc ms : Nat) : Room := { frames := f, cells := mc, slots := ms, locals := lo }
abbrev kws (y : MethodName) (cc : ByteArray) (nL : Nat) (ret : Option FieldType) : List Cond := Cond.code y cc nL ret :: lw_all
abbrev kwsH (y : MethodName) (cc : ByteArray) (nL : Nat) (ret : Option FieldType) (hh : List (Nat × Nat × Nat × Nat)) : List Cond := Cond.codeWith y cc nL ret hh :: lw_all
def gR (D : va_G) (H0 : Heap) : va_W → Heap → List Loc → Prop := fun ws H locs => va_P D kCl ws H ∧ H = H0 ∧ locs = []
def gW (D : va_G) (A : Nat → Prop) (H0 : Heap) : va_W → Heap → List Loc → Prop := fun ws H locs => va_P D kCl ws H ∧ va_D A ws ∧ va_S A H0 H locs
def kE (p : Program) (s : State) (m : MethodId) (args : Array Value) (c : Code) (own : String) (cc : ByteArray) (nL : Nat) (D : va_G) (tys : List (ClassId × FieldType)) (G : va_W → Heap → List Loc → Prop) : Prop :=
  p.tables.exec = Jvm.exec ∧ c.code = cc ∧ c.maxLocals = nL ∧ s.vm.findClass own = some m.cls ∧ (∀ w ∈ lw_all, w.before args s = true) ∧ kK D tys s ∧ (∀ ws H locs, G ws H locs → va_P D kCl ws H)
def kJ (p : Program) (l : Launch) (e : Env) (R : Room) (s : State) (m : MethodId) (args : Array Value) (below : List Frame) (meth : Method) (c : Code) (G : va_W → Heap → List Loc → Prop) (nL cells slots : Nat) (Q : State → Prop) (ws : va_W) (pc : Nat) (lv : List (Nat × Value)) (st : List Value) : Prop :=
  ∀ (H : Heap) (locs : List Loc) (ls : Array Slot), G ws H locs → lv_has ls nL lv → W p l e R s m args below meth c H locs cells slots Q (F0 m pc ls st)
def kX (p : Program) (l : Launch) (e : Env) (R : Room) (s : State) (m : MethodId) (args : Array Value) (below : List Frame) (meth : Method) (c : Code) (G : va_W → Heap → List Loc → Prop) (nL cells slots : Nat) (Q : State → Prop) (ws : va_W) (pc : Nat) (lv : List (Nat × Value)) (rest : List Value) (E : String) : Prop :=
  ∀ (H : Heap) (locs : List Loc) (ls : Array Slot) (q : Addr) (ce : Cell), G ws H locs → lv_has ls nL lv → H[q]? = some ce → ce.vm = .none → s.vm.findClass E = some ce.cls → vx_W p l e R s m args below meth c H locs cells slots Q (F0 m pc ls rest) q
def kCF (y : MethodName) (bytes : ByteArray) (maxL : Nat) (ret : Option FieldType) (n : Nat) : Prop := Cond.code y bytes maxL ret ∈ lw_all ∧ Cond.instanceMethod y ∈ lw_all ∧ Cond.selects y.cls y y ∈ lw_all ∧ Cond.initialized y.cls ∈ lw_all ∧ (y.cls ≠ "java/lang/invoke/MethodHandle" ∧ y.cls ≠ "java/lang/invoke/VarHandle") ∧ (parseMethodDescriptor y.desc).map (fun d => d.parameters.length) = some n
def kCS (y : MethodName) (bytes : ByteArray) (maxL : Nat) (ret : Option FieldType) (n : Nat) : Prop := Cond.code y bytes maxL ret ∈ lw_all ∧ Cond.static y ∈ lw_all ∧ Cond.initialized y.cls ∈ lw_all ∧ (y.cls ≠ "java/lang/invoke/MethodHandle" ∧ y.cls ≠ "java/lang/invoke/VarHandle") ∧ (parseMethodDescriptor y.desc).map (fun d => d.parameters.length) = some n
def kCH (y : MethodName) (bytes : ByteArray) (maxL : Nat) (ret : Option FieldType) (hh : List (Nat × Nat × Nat × Nat)) (n : Nat) : Prop := Cond.codeWith y bytes maxL ret hh ∈ lw_all ∧ Cond.static y ∈ lw_all ∧ Cond.initialized y.cls ∈ lw_all ∧ (y.cls ≠ "java/lang/invoke/MethodHandle" ∧ y.cls ≠ "java/lang/invoke/VarHandle") ∧ (parseMethodDescriptor y.desc).map (fun d => d.parameters.length) = some n
def kCI (y : MethodName) (bytes : ByteArray) (maxL : Nat) (n : Nat) : Prop := Cond.code y bytes maxL none ∈ lw_all ∧ Cond.instanceMethod y ∈ lw_all ∧ Cond.initialized y.cls ∈ lw_all ∧ y.name = "<init>" ∧ (y.cls ≠ "java/lang/invoke/MethodHandle" ∧ y.cls ≠ "java/lang/invoke/VarHandle") ∧ (parseMethodDescriptor y.desc).map (fun d => d.parameters.length) = some n
theorem kws_in {y : MethodName} {bytes : ByteArray} {maxL : Nat} {ret : Option FieldType} (h : Cond.code y bytes maxL ret ∈ lw_all) : GoodIn lw_all (kws y bytes maxL ret) := fun w hw => (List.mem_cons.mp hw).elim (fun q => by rw [q]; exact lw_all_good _ h) (fun q => lw_all_good w q)
theorem kwsH_in {y : MethodName} {bytes : ByteArray} {maxL : Nat} {ret : Option FieldType} {hh : List (Nat × Nat × Nat × Nat)} (h : Cond.codeWith y bytes maxL ret hh ∈ lw_all) : GoodIn lw_all (kwsH y bytes maxL ret hh) := fun w hw => (List.mem_cons.mp hw).elim (fun q => by rw [q]; exact lw_all_good _ h) (fun q => lw_all_good w q)
theorem kV_in {own : String} {idx : Nat} {y : MethodName} {bytes : ByteArray} {maxL n : Nat} {ret : Option FieldType} (F : kCF y bytes maxL ret n) (hl : Cond.methodLink own idx y ∈ lw_all) : GoodIn lw_all (wsV own idx y.cls y (kws y bytes maxL ret)) := by
  intro w hw
  unfold wsV at hw
  rcases List.mem_append.mp hw with h | h
  · simp only [List.mem_cons, List.not_mem_nil, or_false] at h
    rcases h with rfl | rfl | rfl | rfl
    · exact lw_all_good _ hl
    · exact lw_all_good _ F.2.1
    · exact lw_all_good _ F.2.2.1
    · exact lw_all_good _ F.2.2.2.1
  · exact kws_in F.1 w h
theorem kS_in {own : String} {idx : Nat} {y : MethodName} {bytes : ByteArray} {maxL n : Nat} {ret : Option FieldType} (F : kCS y bytes maxL ret n) (hl : Cond.methodLink own idx y ∈ lw_all) : GoodIn lw_all (va_wsS own idx y (kws y bytes maxL ret)) := by
  intro w hw
  unfold va_wsS at hw
  rcases List.mem_append.mp hw with h | h
  · simp only [List.mem_cons, List.not_mem_nil, or_false] at h
    rcases h with rfl | rfl | rfl
    · exact lw_all_good _ hl
    · exact lw_all_good _ F.2.1
    · exact lw_all_good _ F.2.2.1
  · exact kws_in F.1 w h
theorem kH_in {own : String} {idx : Nat} {y : MethodName} {bytes : ByteArray} {maxL n : Nat} {ret : Option FieldType} {hh : List (Nat × Nat × Nat × Nat)} (F : kCH y bytes maxL ret hh n) (hl : Cond.methodLink own idx y ∈ lw_all) : GoodIn lw_all (va_wsS own idx y (kwsH y bytes maxL ret hh)) := by
  intro w hw
  unfold va_wsS at hw
  rcases List.mem_append.mp hw with h | h
  · simp only [List.mem_cons, List.not_mem_nil, or_false] at h
    rcases h with rfl | rfl | rfl
    · exact lw_all_good _ hl
    · exact lw_all_good _ F.2.1
    · exact lw_all_good _ F.2.2.1
  · exact kwsH_in F.1 w h
/-! contracts -/
def kQr (v : Option Value) : Array Value → State → Outcome → State → Prop := fun _ st o t => o = .returned v ∧ t.heap = st.heap
def kQw (v : Option Value) (D : va_G) (W0 W1 : va_W) (sz : Nat) : Array Value → State → Outcome → State → Prop := fun _ st o t => o = .returned v ∧ va_P D kCl W1 t.heap ∧ va_D (va_A W0 sz) W1 ∧ va_F (va_A W0 sz) st t
def mR (l : Launch) (y : MethodName) (bytes : ByteArray) (nL : Nat) (ret : Option FieldType) (f lo : Nat) (D : va_G) (tys : List (ClassId × FieldType)) (av : List Value) (W0 : va_W) (v : Option Value) : Prop := Met l y (kws y bytes nL ret) (kRm f lo) (va_Pc av (fun U => va_P D kCl W0 U.heap ∧ kK D tys U)) (kQr v) 0 0 (fun _ => False)
def mW (l : Launch) (y : MethodName) (bytes : ByteArray) (nL : Nat) (ret : Option FieldType) (f lo mc ms : Nat) (D : va_G) (tys : List (ClassId × FieldType)) (av : List Value) (W0 : va_W) (v : Option Value) (W1 : va_W) : Prop := ∀ sz : Nat, Met l y (kws y bytes nL ret) (kRmc f lo mc ms) (va_Pc av (fun U => U.heap.size = sz ∧ va_P D kCl W0 U.heap ∧ kK D tys U ∧ va_D (fun _ => True) W0)) (kQw v D W0 W1 sz) mc ms (va_A W0 sz)
def kXc (out : (Option Value × va_W) ⊕ String) (D : va_G) (W0 : va_W) (sz : Nat) : String → State → State → Prop := fun E st t => out = .inr E ∧ va_P D kCl W0 t.heap ∧ va_D (va_A W0 sz) W0 ∧ va_F (va_A W0 sz) st t
def kXq (out : (Option Value × va_W) ⊕ String) (D : va_G) (W0 : va_W) (sz : Nat) : Array Value → State → Outcome → State → Prop := fun a st o t => ∃ v W1, out = .inl (v, W1) ∧ kQw v D W0 W1 sz a st o t
def kPx (av : List Value) (D : va_G) (tys : List (ClassId × FieldType)) (W0 : va_W) (sz : Nat) : Array Value → State → Prop := va_Pc av (fun U => U.heap.size = sz ∧ va_P D kCl W0 U.heap ∧ kK D tys U ∧ va_D (fun _ => True) W0 ∧ kZ (va_A W0 sz) U U.heap)
def mX (l : Launch) (y : MethodName) (bytes : ByteArray) (nL : Nat) (ret : Option FieldType) (f lo mc ms : Nat) (D : va_G) (tys : List (ClassId × FieldType)) (av : List Value) (W0 : va_W) (out : (Option Value × va_W) ⊕ String) : Prop := ∀ sz : Nat, vx_Met l y (kws y bytes nL ret) (kRmc f lo mc ms) (kPx av D tys W0 sz) (kXq out D W0 sz) (kXc out D W0 sz) mc ms (va_A W0 sz)
/-- a wrapper with a table of its own: it only returns -/
def mH (l : Launch) (y : MethodName) (bytes : ByteArray) (nL : Nat) (ret : Option FieldType) (hh : List (Nat × Nat × Nat × Nat)) (f lo mc ms : Nat) (D : va_G) (tys : List (ClassId × FieldType)) (av : List Value) (W0 : va_W) (out : (Option Value × va_W) ⊕ String) : Prop := ∀ sz : Nat, vx_Met l y (kwsH y bytes nL ret hh) (kRmc f lo mc ms) (kPx av D tys W0 sz) (kXq out D W0 sz) (kXc out D W0 sz) mc ms (va_A W0 sz)

section KR
variable {p : Program} {l : Launch} {e : Env} {R : Room} {s : State} {m : MethodId} {args : Array Value} {below : List Frame} {meth : Method} {c : Code} {cells slots : Nat} {Q : State → Prop}
variable {cc : ByteArray} {own : String} {nL pc : Nat} {D : va_G} {tys : List (ClassId × FieldType)} {G : va_W → Heap → List Loc → Prop} {ws : va_W} {lv : List (Nat × Value)} {st : List Value}
theorem k_iconst (E : kE p s m args c own cc nL D tys G) {n : Int} {v : Int32} (hv : Int32.ofInt n = v) (d : decode cc pc = .ok (.iconst n, 1)) (K : kJ p l e R s m args below meth c G nL cells slots Q ws (pc + 1) lv (.int v :: st)) : kJ p l e R s m args below meth c G nL cells slots Q ws pc lv st := fun H locs ls hG hl => lv_iconst E.1 E.2.1 d hv (K H locs ls hG hl)
theorem k_bipush (E : kE p s m args c own cc nL D tys G) {n : Int} {v : Int32} (hv : (Int8.ofInt n).toInt32 = v) (d : decode cc pc = .ok (.bipush n, 2)) (K : kJ p l e R s m args below meth c G nL cells slots Q ws (pc + 2) lv (.int v :: st)) : kJ p l e R s m args below meth c G nL cells slots Q ws pc lv st := fun H locs ls hG hl => lv_bipush E.1 E.2.1 d hv (K H locs ls hG hl)
theorem k_sipush (E : kE p s m args c own cc nL D tys G) {n : Int} {v : Int32} (hv : (Int16.ofInt n).toInt32 = v) (d : decode cc pc = .ok (.sipush n, 3)) (K : kJ p l e R s m args below meth c G nL cells slots Q ws (pc + 3) lv (.int v :: st)) : kJ p l e R s m args below meth c G nL cells slots Q ws pc lv st := fun H locs ls hG hl => lv_sipush E.1 E.2.1 d hv (K H locs ls hG hl)
theorem k_lconst (E : kE p s m args c own cc nL D tys G) {n : Fin 2} {v : Int64} (hv : Int64.ofNat (n : Nat) = v) (d : decode cc pc = .ok (.lconst n, 1)) (K : kJ p l e R s m args below meth c G nL cells slots Q ws (pc + 1) lv (.long v :: st)) : kJ p l e R s m args below meth c G nL cells slots Q ws pc lv st := fun H locs ls hG hl => lv_lconst E.1 E.2.1 d hv (K H locs ls hG hl)
theorem k_iload_n (E : kE p s m args c own cc nL D tys G) {k : Fin 4} {i : Nat} {x : Int32} (q : Nat) (hi : (k : Nat) = i) (hk : lv[q]? = some (i, .int x)) (d : decode cc pc = .ok (.iload_n k, 1)) (K : kJ p l e R s m args below meth c G nL cells slots Q ws (pc + 1) lv (.int x :: st)) : kJ p l e R s m args below meth c G nL cells slots Q ws pc lv st := fun H locs ls hG hl => lv_iload_n E.1 E.2.1 d hi (lv_at hl q hk) (K H locs ls hG hl)
theorem k_iload (E : kE p s m args c own cc nL D tys G) {i : Nat} {x : Int32} (q : Nat) (hk : lv[q]? = some (i, .int x)) (d : decode cc pc = .ok (.iload i, 2)) (K : kJ p l e R s m args below meth c G nL cells slots Q ws (pc + 2) lv (.int x :: st)) : kJ p l e R s m args below meth c G nL cells slots Q ws pc lv st := fun H locs ls hG hl => lv_iload E.1 E.2.1 d (lv_at hl q hk) (K H locs ls hG hl)
theorem k_istore_n (E : kE p s m args c own cc nL D tys G) {k : Fin 4} {i : Nat} {x : Int32} {lv' : List (Nat × Value)} (hi : (k : Nat) = i) (hn : i < nL) (hv : (i, Value.int x) :: lv.filter (fun q => !(q.1 == i) && !(q.1 + 1 == i && q.2.category == 2)) = lv') (d : decode cc pc = .ok (.istore_n k, 1)) (K : kJ p l e R s m args below meth c G nL cells slots Q ws (pc + 1) lv' st) : kJ p l e R s m args below meth c G nL cells slots Q ws pc lv (.int x :: st) := fun H locs ls hG hl => lv_istore_n E.1 E.2.1 d hi hl hn hv (fun ls' hl' => K H locs ls' hG hl')
theorem k_istore (E : kE p s m args c own cc nL D tys G) {i : Nat} {x : Int32} {lv' : List (Nat × Value)} (hn : i < nL) (hv : (i, Value.int x) :: lv.filter (fun q => !(q.1 == i) && !(q.1 + 1 == i && q.2.category == 2)) = lv') (d : decode cc pc = .ok (.istore i, 2)) (K : kJ p l e R s m args below meth c G nL cells slots Q ws (pc + 2) lv' st) : kJ p l e R s m args below meth c G nL cells slots Q ws pc lv (.int x :: st) := fun H locs ls hG hl => lv_istore E.1 E.2.1 d hl hn hv (fun ls' hl' => K H locs ls' hG hl')
theorem k_lload_n (E : kE p s m args c own cc nL D tys G) {k : Fin 4} {i : Nat} {x : Int64} (q : Nat) (hi : (k : Nat) = i) (hk : lv[q]? = some (i, .long x)) (d : decode cc pc = .ok (.lload_n k, 1)) (K : kJ p l e R s m args below meth c G nL cells slots Q ws (pc + 1) lv (.long x :: st)) : kJ p l e R s m args below meth c G nL cells slots Q ws pc lv st := fun H locs ls hG hl => lv_lload_n E.1 E.2.1 d hi (lv_at hl q hk) (K H locs ls hG hl)
theorem k_lload (E : kE p s m args c own cc nL D tys G) {i : Nat} {x : Int64} (q : Nat) (hk : lv[q]? = some (i, .long x)) (d : decode cc pc = .ok (.lload i, 2)) (K : kJ p l e R s m args below meth c G nL cells slots Q ws (pc + 2) lv (.long x :: st)) : kJ p l e R s m args below meth c G nL cells slots Q ws pc lv st := fun H locs ls hG hl => lv_lload E.1 E.2.1 d (lv_at hl q hk) (K H locs ls hG hl)
theorem k_lstore_n (E : kE p s m args c own cc nL D tys G) {k : Fin 4} {i : Nat} {x : Int64} {lv' : List (Nat × Value)} (hi : (k : Nat) = i) (hn : i + 1 < nL) (hv : (i, Value.long x) :: lv.filter (fun q => !(q.1 == i) && (!(q.1 == i + 1) && !(q.1 + 1 == i && q.2.category == 2))) = lv') (d : decode cc pc = .ok (.lstore_n k, 1)) (K : kJ p l e R s m args below meth c G nL cells slots Q ws (pc + 1) lv' st) : kJ p l e R s m args below meth c G nL cells slots Q ws pc lv (.long x :: st) := fun H locs ls hG hl => lv_lstore_n E.1 E.2.1 d hi hl hn hv (fun ls' hl' => K H locs ls' hG hl')
theorem k_lstore (E : kE p s m args c own cc nL D tys G) {i : Nat} {x : Int64} {lv' : List (Nat × Value)} (hn : i + 1 < nL) (hv : (i, Value.long x) :: lv.filter (fun q => !(q.1 == i) && (!(q.1 == i + 1) && !(q.1 + 1 == i && q.2.category == 2))) = lv') (d : decode cc pc = .ok (.lstore i, 2)) (K : kJ p l e R s m args below meth c G nL cells slots Q ws (pc + 2) lv' st) : kJ p l e R s m args below meth c G nL cells slots Q ws pc lv (.long x :: st) := fun H locs ls hG hl => lv_lstore E.1 E.2.1 d hl hn hv (fun ls' hl' => K H locs ls' hG hl')
theorem k_fload (E : kE p s m args c own cc nL D tys G) {i : Nat} {x : UInt32} (q : Nat) (hk : lv[q]? = some (i, .float x)) (d : decode cc pc = .ok (.fload i, 2)) (K : kJ p l e R s m args below meth c G nL cells slots Q ws (pc + 2) lv (.float x :: st)) : kJ p l e R s m args below meth c G nL cells slots Q ws pc lv st := fun H locs ls hG hl => lv_fload E.1 E.2.1 d (lv_at hl q hk) (K H locs ls hG hl)
theorem k_fstore_n (E : kE p s m args c own cc nL D tys G) {k : Fin 4} {i : Nat} {x : UInt32} {lv' : List (Nat × Value)} (hi : (k : Nat) = i) (hn : i < nL) (hv : (i, Value.float x) :: lv.filter (fun q => !(q.1 == i) && !(q.1 + 1 == i && q.2.category == 2)) = lv') (d : decode cc pc = .ok (.fstore_n k, 1)) (K : kJ p l e R s m args below meth c G nL cells slots Q ws (pc + 1) lv' st) : kJ p l e R s m args below meth c G nL cells slots Q ws pc lv (.float x :: st) := fun H locs ls hG hl => lv_fstore_n E.1 E.2.1 d hi hl hn hv (fun ls' hl' => K H locs ls' hG hl')
theorem k_fstore (E : kE p s m args c own cc nL D tys G) {i : Nat} {x : UInt32} {lv' : List (Nat × Value)} (hn : i < nL) (hv : (i, Value.float x) :: lv.filter (fun q => !(q.1 == i) && !(q.1 + 1 == i && q.2.category == 2)) = lv') (d : decode cc pc = .ok (.fstore i, 2)) (K : kJ p l e R s m args below meth c G nL cells slots Q ws (pc + 2) lv' st) : kJ p l e R s m args below meth c G nL cells slots Q ws pc lv (.float x :: st) := fun H locs ls hG hl => lv_fstore E.1 E.2.1 d hl hn hv (fun ls' hl' => K H locs ls' hG hl')
theorem k_dload_n (E : kE p s m args c own cc nL D tys G) {k : Fin 4} {i : Nat} {x : UInt64} (q : Nat) (hi : (k : Nat) = i) (hk : lv[q]? = some (i, .double x)) (d : decode cc pc = .ok (.dload_n k, 1)) (K : kJ p l e R s m args below meth c G nL cells slots Q ws (pc + 1) lv (.double x :: st)) : kJ p l e R s m args below meth c G nL cells slots Q ws pc lv st := fun H locs ls hG hl => lv_dload_n E.1 E.2.1 d hi (lv_at hl q hk) (K H locs ls hG hl)
theorem k_dload (E : kE p s m args c own cc nL D tys G) {i : Nat} {x : UInt64} (q : Nat) (hk : lv[q]? = some (i, .double x)) (d : decode cc pc = .ok (.dload i, 2)) (K : kJ p l e R s m args below meth c G nL cells slots Q ws (pc + 2) lv (.double x :: st)) : kJ p l e R s m args below meth c G nL cells slots Q ws pc lv st := fun H locs ls hG hl => lv_dload E.1 E.2.1 d (lv_at hl q hk) (K H locs ls hG hl)
theorem k_dstore_n (E : kE p s m args c own cc nL D tys G) {k : Fin 4} {i : Nat} {x : UInt64} {lv' : List (Nat × Value)} (hi : (k : Nat) = i) (hn : i + 1 < nL) (hv : (i, Value.double x) :: lv.filter (fun q => !(q.1 == i) && (!(q.1 == i + 1) && !(q.1 + 1 == i && q.2.category == 2))) = lv') (d : decode cc pc = .ok (.dstore_n k, 1)) (K : kJ p l e R s m args below meth c G nL cells slots Q ws (pc + 1) lv' st) : kJ p l e R s m args below meth c G nL cells slots Q ws pc lv (.double x :: st) := fun H locs ls hG hl => lv_dstore_n E.1 E.2.1 d hi hl hn hv (fun ls' hl' => K H locs ls' hG hl')
theorem k_dstore (E : kE p s m args c own cc nL D tys G) {i : Nat} {x : UInt64} {lv' : List (Nat × Value)} (hn : i + 1 < nL) (hv : (i, Value.double x) :: lv.filter (fun q => !(q.1 == i) && (!(q.1 == i + 1) && !(q.1 + 1 == i && q.2.category == 2))) = lv') (d : decode cc pc = .ok (.dstore i, 2)) (K : kJ p l e R s m args below meth c G nL cells slots Q ws (pc + 2) lv' st) : kJ p l e R s m args below meth c G nL cells slots Q ws pc lv (.double x :: st) := fun H locs ls hG hl => lv_dstore E.1 E.2.1 d hl hn hv (fun ls' hl' => K H locs ls' hG hl')
theorem k_aload_n (E : kE p s m args c own cc nL D tys G) {k : Fin 4} {i : Nat} {x : Nat} (q : Nat) (hi : (k : Nat) = i) (hk : lv[q]? = some (i, .ref x)) (d : decode cc pc = .ok (.aload_n k, 1)) (K : kJ p l e R s m args below meth c G nL cells slots Q ws (pc + 1) lv (.ref x :: st)) : kJ p l e R s m args below meth c G nL cells slots Q ws pc lv st := fun H locs ls hG hl => lv_aload_n E.1 E.2.1 d hi (lv_at hl q hk) (K H locs ls hG hl)
theorem k_aload (E : kE p s m args c own cc nL D tys G) {i : Nat} {x : Nat} (q : Nat) (hk : lv[q]? = some (i, .ref x)) (d : decode cc pc = .ok (.aload i, 2)) (K : kJ p l e R s m args below meth c G nL cells slots Q ws (pc + 2) lv (.ref x :: st)) : kJ p l e R s m args below meth c G nL cells slots Q ws pc lv st := fun H locs ls hG hl => lv_aload E.1 E.2.1 d (lv_at hl q hk) (K H locs ls hG hl)
theorem k_astore_n (E : kE p s m args c own cc nL D tys G) {k : Fin 4} {i : Nat} {x : Nat} {lv' : List (Nat × Value)} (hi : (k : Nat) = i) (hn : i < nL) (hv : (i, Value.ref x) :: lv.filter (fun q => !(q.1 == i) && !(q.1 + 1 == i && q.2.category == 2)) = lv') (d : decode cc pc = .ok (.astore_n k, 1)) (K : kJ p l e R s m args below meth c G nL cells slots Q ws (pc + 1) lv' st) : kJ p l e R s m args below meth c G nL cells slots Q ws pc lv (.ref x :: st) := fun H locs ls hG hl => lv_astore_n E.1 E.2.1 d hi hl hn hv (fun ls' hl' => K H locs ls' hG hl')
theorem k_astore (E : kE p s m args c own cc nL D tys G) {i : Nat} {x : Nat} {lv' : List (Nat × Value)} (hn : i < nL) (hv : (i, Value.ref x) :: lv.filter (fun q => !(q.1 == i) && !(q.1 + 1 == i && q.2.category == 2)) = lv') (d : decode cc pc = .ok (.astore i, 2)) (K : kJ p l e R s m args below meth c G nL cells slots Q ws (pc + 2) lv' st) : kJ p l e R s m args below meth c G nL cells slots Q ws pc lv (.ref x :: st) := fun H locs ls hG hl => lv_astore E.1 E.2.1 d hl hn hv (fun ls' hl' => K H locs ls' hG hl')
theorem k_iinc (E : kE p s m args c own cc nL D tys G) {i q : Nat} {n : Int} {x v : Int32} {lv' : List (Nat × Value)} (hk : lv[q]? = some (i, .int x)) (hv : x + Int32.ofInt n = v) (hn : i < nL) (hw : (i, Value.int v) :: lv.filter (fun q => !(q.1 == i) && !(q.1 + 1 == i && q.2.category == 2)) = lv') (d : decode cc pc = .ok (.iinc i n, 3)) (K : kJ p l e R s m args below meth c G nL cells slots Q ws (pc + 3) lv' st) : kJ p l e R s m args below meth c G nL cells slots Q ws pc lv st := fun H locs ls hG hl => lv_iinc E.1 E.2.1 d hl hk hv hn hw (fun ls' hl' => K H locs ls' hG hl')
theorem k_iadd (E : kE p s m args c own cc nL D tys G) {x y : Int32} (d : decode cc pc = .ok (.iadd, 1)) (K : kJ p l e R s m args below meth c G nL cells slots Q ws (pc + 1) lv (.int (x + y) :: st)) : kJ p l e R s m args below meth c G nL cells slots Q ws pc lv (.int y :: .int x :: st) := fun H locs ls hG hl => lv_iadd E.1 E.2.1 d (K H locs ls hG hl)
theorem k_isub (E : kE p s m args c own cc nL D tys G) {x y : Int32} (d : decode cc pc = .ok (.isub, 1)) (K : kJ p l e R s m args below meth c G nL cells slots Q ws (pc + 1) lv (.int (x - y) :: st)) : kJ p l e R s m args below meth c G nL cells slots Q ws pc lv (.int y :: .int x :: st) := fun H locs ls hG hl => lv_isub E.1 E.2.1 d (K H locs ls hG hl)
theorem k_imul (E : kE p s m args c own cc nL D tys G) {x y : Int32} (d : decode cc pc = .ok (.imul, 1)) (K : kJ p l e R s m args below meth c G nL cells slots Q ws (pc + 1) lv (.int (x * y) :: st)) : kJ p l e R s m args below meth c G nL cells slots Q ws pc lv (.int y :: .int x :: st) := fun H locs ls hG hl => lv_imul E.1 E.2.1 d (K H locs ls hG hl)
theorem k_iand (E : kE p s m args c own cc nL D tys G) {x y : Int32} (d : decode cc pc = .ok (.iand, 1)) (K : kJ p l e R s m args below meth c G nL cells slots Q ws (pc + 1) lv (.int (x &&& y) :: st)) : kJ p l e R s m args below meth c G nL cells slots Q ws pc lv (.int y :: .int x :: st) := fun H locs ls hG hl => lv_iand E.1 E.2.1 d (K H locs ls hG hl)
theorem k_ladd (E : kE p s m args c own cc nL D tys G) {x y : Int64} (d : decode cc pc = .ok (.ladd, 1)) (K : kJ p l e R s m args below meth c G nL cells slots Q ws (pc + 1) lv (.long (x + y) :: st)) : kJ p l e R s m args below meth c G nL cells slots Q ws pc lv (.long y :: .long x :: st) := fun H locs ls hG hl => lv_ladd E.1 E.2.1 d (K H locs ls hG hl)
theorem k_lsub (E : kE p s m args c own cc nL D tys G) {x y : Int64} (d : decode cc pc = .ok (.lsub, 1)) (K : kJ p l e R s m args below meth c G nL cells slots Q ws (pc + 1) lv (.long (x - y) :: st)) : kJ p l e R s m args below meth c G nL cells slots Q ws pc lv (.long y :: .long x :: st) := fun H locs ls hG hl => lv_lsub E.1 E.2.1 d (K H locs ls hG hl)
theorem k_ineg (E : kE p s m args c own cc nL D tys G) {x : Int32} (d : decode cc pc = .ok (.ineg, 1)) (K : kJ p l e R s m args below meth c G nL cells slots Q ws (pc + 1) lv (.int (-x) :: st)) : kJ p l e R s m args below meth c G nL cells slots Q ws pc lv (.int x :: st) := fun H locs ls hG hl => lv_ineg E.1 E.2.1 d (K H locs ls hG hl)
theorem k_idiv (E : kE p s m args c own cc nL D tys G) {x y : Int32} (hne : ¬ y = 0) (d : decode cc pc = .ok (.idiv, 1)) (K : kJ p l e R s m args below meth c G nL cells slots Q ws (pc + 1) lv (.int (x / y) :: st)) : kJ p l e R s m args below meth c G nL cells slots Q ws pc lv (.int y :: .int x :: st) := fun H locs ls hG hl => lv_idiv E.1 E.2.1 d hne (K H locs ls hG hl)
theorem k_irem (E : kE p s m args c own cc nL D tys G) {x y : Int32} (hne : ¬ y = 0) (d : decode cc pc = .ok (.irem, 1)) (K : kJ p l e R s m args below meth c G nL cells slots Q ws (pc + 1) lv (.int (x - x / y * y) :: st)) : kJ p l e R s m args below meth c G nL cells slots Q ws pc lv (.int y :: .int x :: st) := fun H locs ls hG hl => lv_irem E.1 E.2.1 d hne (K H locs ls hG hl)
theorem k_i2l (E : kE p s m args c own cc nL D tys G) {x : Int32} {v : Int64} (hv : x.toInt64 = v) (d : decode cc pc = .ok (.i2l, 1)) (K : kJ p l e R s m args below meth c G nL cells slots Q ws (pc + 1) lv (.long v :: st)) : kJ p l e R s m args below meth c G nL cells slots Q ws pc lv (.int x :: st) := fun H locs ls hG hl => lv_i2l E.1 E.2.1 d hv (K H locs ls hG hl)
theorem k_i2c (E : kE p s m args c own cc nL D tys G) {x v : Int32} (hv : (x.toUInt32 % 65536).toInt32 = v) (d : decode cc pc = .ok (.i2c, 1)) (K : kJ p l e R s m args below meth c G nL cells slots Q ws (pc + 1) lv (.int v :: st)) : kJ p l e R s m args below meth c G nL cells slots Q ws pc lv (.int x :: st) := fun H locs ls hG hl => lv_i2c E.1 E.2.1 d hv (K H locs ls hG hl)
theorem k_i2f (E : kE p s m args c own cc nL D tys G) {x : Int32} (d : decode cc pc = .ok (.i2f, 1)) (K : kJ p l e R s m args below meth c G nL cells slots Q ws (pc + 1) lv (.float (FP.i2f x) :: st)) : kJ p l e R s m args below meth c G nL cells slots Q ws pc lv (.int x :: st) := fun H locs ls hG hl => lv_i2f E.1 E.2.1 d (K H locs ls hG hl)
theorem k_i2d (E : kE p s m args c own cc nL D tys G) {x : Int32} (d : decode cc pc = .ok (.i2d, 1)) (K : kJ p l e R s m args below meth c G nL cells slots Q ws (pc + 1) lv (.double (FP.i2d x) :: st)) : kJ p l e R s m args below meth c G nL cells slots Q ws pc lv (.int x :: st) := fun H locs ls hG hl => lv_i2d E.1 E.2.1 d (K H locs ls hG hl)
theorem k_l2d (E : kE p s m args c own cc nL D tys G) {x : Int64} (d : decode cc pc = .ok (.l2d, 1)) (K : kJ p l e R s m args below meth c G nL cells slots Q ws (pc + 1) lv (.double (FP.l2d x) :: st)) : kJ p l e R s m args below meth c G nL cells slots Q ws pc lv (.long x :: st) := fun H locs ls hG hl => lv_l2d E.1 E.2.1 d (K H locs ls hG hl)
theorem k_f2d (E : kE p s m args c own cc nL D tys G) {x : UInt32} (hne : vf_n64 (FP.f2d x)) (d : decode cc pc = .ok (.f2d, 1)) (K : kJ p l e R s m args below meth c G nL cells slots Q ws (pc + 1) lv (.double (FP.f2d x) :: st)) : kJ p l e R s m args below meth c G nL cells slots Q ws pc lv (.float x :: st) := fun H locs ls hG hl => lv_f2d E.1 E.2.1 d hne (K H locs ls hG hl)
theorem k_fdiv (E : kE p s m args c own cc nL D tys G) {x y : UInt32} (hne : vf_n32 (FP.fdiv x y)) (d : decode cc pc = .ok (.fdiv, 1)) (K : kJ p l e R s m args below meth c G nL cells slots Q ws (pc + 1) lv (.float (FP.fdiv x y) :: st)) : kJ p l e R s m args below meth c G nL cells slots Q ws pc lv (.float y :: .float x :: st) := fun H locs ls hG hl => lv_fdiv E.1 E.2.1 d hne (K H locs ls hG hl)
theorem k_ddiv (E : kE p s m args c own cc nL D tys G) {x y : UInt64} (hne : vf_n64 (FP.ddiv x y)) (d : decode cc pc = .ok (.ddiv, 1)) (K : kJ p l e R s m args below meth c G nL cells slots Q ws (pc + 1) lv (.double (FP.ddiv x y) :: st)) : kJ p l e R s m args below meth c G nL cells slots Q ws pc lv (.double y :: .double x :: st) := fun H locs ls hG hl => lv_ddiv E.1 E.2.1 d hne (K H locs ls hG hl)
theorem k_fcmp (E : kE p s m args c own cc nL D tys G) {x y : UInt32} {op : CmpOp} (d : decode cc pc = .ok (.fcmp op, 1)) (K : kJ p l e R s m args below meth c G nL cells slots Q ws (pc + 1) lv (.int (Op.cmpValue (FP.fcmp x y) op) :: st)) : kJ p l e R s m args below meth c G nL cells slots Q ws pc lv (.float y :: .float x :: st) := fun H locs ls hG hl => lv_fcmp E.1 E.2.1 d (K H locs ls hG hl)
theorem k_dcmp (E : kE p s m args c own cc nL D tys G) {x y : UInt64} {op : CmpOp} (d : decode cc pc = .ok (.dcmp op, 1)) (K : kJ p l e R s m args below meth c G nL cells slots Q ws (pc + 1) lv (.int (Op.cmpValue (FP.dcmp x y) op) :: st)) : kJ p l e R s m args below meth c G nL cells slots Q ws pc lv (.double y :: .double x :: st) := fun H locs ls hG hl => lv_dcmp E.1 E.2.1 d (K H locs ls hG hl)
theorem k_lcmp (E : kE p s m args c own cc nL D tys G) {x y : Int64} (d : decode cc pc = .ok (.lcmp, 1)) (K : kJ p l e R s m args below meth c G nL cells slots Q ws (pc + 1) lv (.int (lg_cmp x y) :: st)) : kJ p l e R s m args below meth c G nL cells slots Q ws pc lv (.long y :: .long x :: st) := fun H locs ls hG hl => W.lcmp E.1 E.2.1 d (K H locs ls hG hl)
theorem k_dup (E : kE p s m args c own cc nL D tys G) {va : Value} (hva : va.category = 1) (d : decode cc pc = .ok (.dup, 1)) (K : kJ p l e R s m args below meth c G nL cells slots Q ws (pc + 1) lv (va :: va :: st)) : kJ p l e R s m args below meth c G nL cells slots Q ws pc lv (va :: st) := fun H locs ls hG hl => lv_dup E.1 E.2.1 d hva (K H locs ls hG hl)
theorem k_pop (E : kE p s m args c own cc nL D tys G) {va : Value} (hva : va.category = 1) (d : decode cc pc = .ok (.pop, 1)) (K : kJ p l e R s m args below meth c G nL cells slots Q ws (pc + 1) lv st) : kJ p l e R s m args below meth c G nL cells slots Q ws pc lv (va :: st) := fun H locs ls hG hl => lv_pop E.1 E.2.1 d hva (K H locs ls hG hl)
theorem k_dup_x1 (E : kE p s m args c own cc nL D tys G) {va vb : Value} (hva : va.category = 1) (hvb : vb.category = 1) (d : decode cc pc = .ok (.dup_x1, 1)) (K : kJ p l e R s m args below meth c G nL cells slots Q ws (pc + 1) lv (va :: vb :: va :: st)) : kJ p l e R s m args below meth c G nL cells slots Q ws pc lv (va :: vb :: st) := fun H locs ls hG hl => lv_dup_x1 E.1 E.2.1 d hva hvb (K H locs ls hG hl)
theorem k_dup2 (E : kE p s m args c own cc nL D tys G) {va vb : Value} (hva : va.category = 1) (hvb : vb.category = 1) (d : decode cc pc = .ok (.dup2, 1)) (K : kJ p l e R s m args below meth c G nL cells slots Q ws (pc + 1) lv (va :: vb :: va :: vb :: st)) : kJ p l e R s m args below meth c G nL cells slots Q ws pc lv (va :: vb :: st) := fun H locs ls hG hl => lv_dup2_11 E.1 E.2.1 d hva hvb (K H locs ls hG hl)
theorem k_ldc2 (E : kE p s m args c own cc nL D tys G) {index : Nat} {v : Int64} (hc : Cond.constantLong own index v ∈ lw_all) (d : decode cc pc = .ok (.ldc2_w index, 3)) (K : kJ p l e R s m args below meth c G nL cells slots Q ws (pc + 3) lv (.long v :: st)) : kJ p l e R s m args below meth c G nL cells slots Q ws pc lv st := fun H locs ls hG hl => lv_ldc2 E.1 E.2.1 E.2.2.2.1 (E.2.2.2.2.1 _ hc) d (K H locs ls hG hl)
theorem k_goto (E : kE p s m args c own cc nL D tys G) {off : Int} {tgt : Nat} (ht : (pc : Int) + off = (tgt : Int)) (d : decode cc pc = .ok (.goto off, 3)) (K : kJ p l e R s m args below meth c G nL cells slots Q ws tgt lv st) : kJ p l e R s m args below meth c G nL cells slots Q ws pc lv st := fun H locs ls hG hl => lv_goto E.1 E.2.1 d ht (K H locs ls hG hl)
theorem k_if_eq (E : kE p s m args c own cc nL D tys G) {x : Int32} {off : Int} {tgt : Nat} (ht : (pc : Int) + off = (tgt : Int)) (d : decode cc pc = .ok (.ifCond .eq off, 3)) (kt : x = 0 → kJ p l e R s m args below meth c G nL cells slots Q ws tgt lv st) (kf : ¬ x = 0 → kJ p l e R s m args below meth c G nL cells slots Q ws (pc + 3) lv st) : kJ p l e R s m args below meth c G nL cells slots Q ws pc lv (.int x :: st) := fun H locs ls hG hl => lv_if_eq E.1 E.2.1 d ht (fun h => kt h H locs ls hG hl) (fun h => kf h H locs ls hG hl)
theorem k_icmp_eq (E : kE p s m args c own cc nL D tys G) {x y : Int32} {off : Int} {tgt : Nat} (ht : (pc : Int) + off = (tgt : Int)) (d : decode cc pc = .ok (.if_icmp .eq off, 3)) (kt : x = y → kJ p l e R s m args below meth c G nL cells slots Q ws tgt lv st) (kf : ¬ x = y → kJ p l e R s m args below meth c G nL cells slots Q ws (pc + 3) lv st) : kJ p l e R s m args below meth c G nL cells slots Q ws pc lv (.int y :: .int x :: st) := fun H locs ls hG hl => lv_icmp_eq E.1 E.2.1 d ht (fun h => kt h H locs ls hG hl) (fun h => kf h H locs ls hG hl)
theorem k_if_ne (E : kE p s m args c own cc nL D tys G) {x : Int32} {off : Int} {tgt : Nat} (ht : (pc : Int) + off = (tgt : Int)) (d : decode cc pc = .ok (.ifCond .ne off, 3)) (kt : ¬ x = 0 → kJ p l e R s m args below meth c G nL cells slots Q ws tgt lv st) (kf : x = 0 → kJ p l e R s m args below meth c G nL cells slots Q ws (pc + 3) lv st) : kJ p l e R s m args below meth c G nL cells slots Q ws pc lv (.int x :: st) := fun H locs ls hG hl => lv_if_ne E.1 E.2.1 d ht (fun h => kt h H locs ls hG hl) (fun h => kf h H locs ls hG hl)
theorem k_icmp_ne (E : kE p s m args c own cc nL D tys G) {x y : Int32} {off : Int} {tgt : Nat} (ht : (pc : Int) + off = (tgt : Int)) (d : decode cc pc = .ok (.if_icmp .ne off, 3)) (kt : ¬ x = y → kJ p l e R s m args below meth c G nL cells slots Q ws tgt lv st) (kf : x = y → kJ p l e R s m args below meth c G nL cells slots Q ws (pc + 3) lv st) : kJ p l e R s m args below meth c G nL cells slots Q ws pc lv (.int y :: .int x :: st) := fun H locs ls hG hl => lv_icmp_ne E.1 E.2.1 d ht (fun h => kt h H locs ls hG hl) (fun h => kf h H locs ls hG hl)
theorem k_if_lt (E : kE p s m args c own cc nL D tys G) {x : Int32} {off : Int} {tgt : Nat} (ht : (pc : Int) + off = (tgt : Int)) (d : decode cc pc = .ok (.ifCond .lt off, 3)) (kt : x < 0 → kJ p l e R s m args below meth c G nL cells slots Q ws tgt lv st) (kf : ¬ x < 0 → kJ p l e R s m args below meth c G nL cells slots Q ws (pc + 3) lv st) : kJ p l e R s m args below meth c G nL cells slots Q ws pc lv (.int x :: st) := fun H locs ls hG hl => lv_if_lt E.1 E.2.1 d ht (fun h => kt h H locs ls hG hl) (fun h => kf h H locs ls hG hl)
theorem k_icmp_lt (E : kE p s m args c own cc nL D tys G) {x y : Int32} {off : Int} {tgt : Nat} (ht : (pc : Int) + off = (tgt : Int)) (d : decode cc pc = .ok (.if_icmp .lt off, 3)) (kt : x < y → kJ p l e R s m args below meth c G nL cells slots Q ws tgt lv st) (kf : ¬ x < y → kJ p l e R s m args below meth c G nL cells slots Q ws (pc + 3) lv st) : kJ p l e R s m args below meth c G nL cells slots Q ws pc lv (.int y :: .int x :: st) := fun H locs ls hG hl => lv_icmp_lt E.1 E.2.1 d ht (fun h => kt h H locs ls hG hl) (fun h => kf h H locs ls hG hl)
theorem k_if_ge (E : kE p s m args c own cc nL D tys G) {x : Int32} {off : Int} {tgt : Nat} (ht : (pc : Int) + off = (tgt : Int)) (d : decode cc pc = .ok (.ifCond .ge off, 3)) (kt : 0 ≤ x → kJ p l e R s m args below meth c G nL cells slots Q ws tgt lv st) (kf : ¬ 0 ≤ x → kJ p l e R s m args below meth c G nL cells slots Q ws (pc + 3) lv st) : kJ p l e R s m args below meth c G nL cells slots Q ws pc lv (.int x :: st) := fun H locs ls hG hl => lv_if_ge E.1 E.2.1 d ht (fun h => kt h H locs ls hG hl) (fun h => kf h H locs ls hG hl)
theorem k_icmp_ge (E : kE p s m args c own cc nL D tys G) {x y : Int32} {off : Int} {tgt : Nat} (ht : (pc : Int) + off = (tgt : Int)) (d : decode cc pc = .ok (.if_icmp .ge off, 3)) (kt : y ≤ x → kJ p l e R s m args below meth c G nL cells slots Q ws tgt lv st) (kf : ¬ y ≤ x → kJ p l e R s m args below meth c G nL cells slots Q ws (pc + 3) lv st) : kJ p l e R s m args below meth c G nL cells slots Q ws pc lv (.int y :: .int x :: st) := fun H locs ls hG hl => lv_icmp_ge E.1 E.2.1 d ht (fun h => kt h H locs ls hG hl) (fun h => kf h H locs ls hG hl)
theorem k_if_gt (E : kE p s m args c own cc nL D tys G) {x : Int32} {off : Int} {tgt : Nat} (ht : (pc : Int) + off = (tgt : Int)) (d : decode cc pc = .ok (.ifCond .gt off, 3)) (kt : 0 < x → kJ p l e R s m args below meth c G nL cells slots Q ws tgt lv st) (kf : ¬ 0 < x → kJ p l e R s m args below meth c G nL cells slots Q ws (pc + 3) lv st) : kJ p l e R s m args below meth c G nL cells slots Q ws pc lv (.int x :: st) := fun H locs ls hG hl => lv_if_gt E.1 E.2.1 d ht (fun h => kt h H locs ls hG hl) (fun h => kf h H locs ls hG hl)
theorem k_icmp_gt (E : kE p s m args c own cc nL D tys G) {x y : Int32} {off : Int} {tgt : Nat} (ht : (pc : Int) + off = (tgt : Int)) (d : decode cc pc = .ok (.if_icmp .gt off, 3)) (kt : y < x → kJ p l e R s m args below meth c G nL cells slots Q ws tgt lv st) (kf : ¬ y < x → kJ p l e R s m args below meth c G nL cells slots Q ws (pc + 3) lv st) : kJ p l e R s m args below meth c G nL cells slots Q ws pc lv (.int y :: .int x :: st) := fun H locs ls hG hl => lv_icmp_gt E.1 E.2.1 d ht (fun h => kt h H locs ls hG hl) (fun h => kf h H locs ls hG hl)
theorem k_if_le (E : kE p s m args c own cc nL D tys G) {x : Int32} {off : Int} {tgt : Nat} (ht : (pc : Int) + off = (tgt : Int)) (d : decode cc pc = .ok (.ifCond .le off, 3)) (kt : x ≤ 0 → kJ p l e R s m args below meth c G nL cells slots Q ws tgt lv st) (kf : ¬ x ≤ 0 → kJ p l e R s m args below meth c G nL cells slots Q ws (pc + 3) lv st) : kJ p l e R s m args below meth c G nL cells slots Q ws pc lv (.int x :: st) := fun H locs ls hG hl => lv_if_le E.1 E.2.1 d ht (fun h => kt h H locs ls hG hl) (fun h => kf h H locs ls hG hl)
theorem k_icmp_le (E : kE p s m args c own cc nL D tys G) {x y : Int32} {off : Int} {tgt : Nat} (ht : (pc : Int) + off = (tgt : Int)) (d : decode cc pc = .ok (.if_icmp .le off, 3)) (kt : x ≤ y → kJ p l e R s m args below meth c G nL cells slots Q ws tgt lv st) (kf : ¬ x ≤ y → kJ p l e R s m args below meth c G nL cells slots Q ws (pc + 3) lv st) : kJ p l e R s m args below meth c G nL cells slots Q ws pc lv (.int y :: .int x :: st) := fun H locs ls hG hl => lv_icmp_le E.1 E.2.1 d ht (fun h => kt h H locs ls hG hl) (fun h => kf h H locs ls hG hl)
theorem k_get (E : kE p s m args c own cc nL D tys G) {ref C : String} {T : u_T} {N ci index a : Nat} (hin : ∀ w ∈ u_ws C T N, w ∈ lw_all) (q0 : Nat) {fs : List Value} (he : ws[q0]? = some (a, .inr (ci, fs))) (hc : kCl[ci]? = some (C, T, N)) (k : Nat) (hk : k < N) (hlink : Cond.fieldLink own index ref (T k).2.1 (T k).2.2.1 ∈ lw_all) (hsame : (T k).1 = ref) {v : Value} (hv : fs[k]? = some v) (d : decode cc pc = .ok (.getfield index, 3)) (K : kJ p l e R s m args below meth c G nL cells slots Q ws (pc + 3) lv (v :: st)) : kJ p l e R s m args below meth c G nL cells slots Q ws pc lv (.ref a :: st) := fun H locs ls hG hl => va_get E.1 E.2.1 E.2.2.2.2.1 hin E.2.2.2.1 E.2.2.2.2.2.1.1 (E.2.2.2.2.2.2 _ _ _ hG) q0 he hc k hk (E.2.2.2.2.1 _ hlink) (fun x h => by rw [← hsame]; exact h) hv d (K H locs ls hG hl)
theorem k_getN (E : kE p s m args c own cc nL D tys G) {ref C : String} {T : u_T} {N ci index a : Nat} (hin : ∀ w ∈ u_ws C T N, w ∈ lw_all) (q0 : Nat) {fs : List Value} (he : ws[q0]? = some (a, .inr (ci, fs))) (hc : kCl[ci]? = some (C, T, N)) (k : Nat) (hk : k < N) (hown : own = RX2) (hlink : (index, ref, (T k).2.1, (T k).2.2.1) ∈ kNF) (hsame : (T k).1 = ref) {v : Value} (hv : fs[k]? = some v) (d : decode cc pc = .ok (.getfield index, 3)) (K : kJ p l e R s m args below meth c G nL cells slots Q ws (pc + 3) lv (v :: st)) : kJ p l e R s m args below meth c G nL cells slots Q ws pc lv (.ref a :: st) := fun H locs ls hG hl => va_getN (host := RX2) E.1 E.2.1 E.2.2.2.2.1 hin E.2.2.2.1 E.2.2.2.2.2.1.1 (E.2.2.2.2.2.2 _ _ _ hG) q0 he hc k hk (by rw [hown]; exact va_Nw.use rfl (E.2.2.2.2.2.1.2.1 _ hlink)) (fun x h => by rw [← hsame]; exact h) hv d (K H locs ls hG hl)
theorem k_iald (E : kE p s m args c own cc nL D tys G) {a : Nat} (q0 t0 : Nat) {cA : ClassId} {n : Nat} {f : Nat → Int32} (ha : ws[q0]? = some (a, .inl (cA, n, .inl f))) (ht : tys[t0]? = some (cA, .int)) {i : Int32} {j : Nat} (hi : i = nI j) (hj : j < n) (hn : n < 2 ^ 31) (d : decode cc pc = .ok (.iaload, 1)) (K : kJ p l e R s m args below meth c G nL cells slots Q ws (pc + 1) lv (.int (f j) :: st)) : kJ p l e R s m args below meth c G nL cells slots Q ws pc lv (.int i :: .ref a :: st) := fun H locs ls hG hl => va_iald E.1 E.2.1 E.2.2.2.2.2.1.1 (E.2.2.2.2.2.2 _ _ _ hG) q0 t0 ha ht (by rw [hi]; exact vp_in_nI hj hn) d (by rw [hi, nI_clamp (Nat.lt_trans hj hn)]; exact K H locs ls hG hl)
theorem k_cald (E : kE p s m args c own cc nL D tys G) {a : Nat} (q0 t0 : Nat) {cA : ClassId} {n : Nat} {f : Nat → Int32} (ha : ws[q0]? = some (a, .inl (cA, n, .inl f))) (ht : tys[t0]? = some (cA, .char)) {i : Int32} {j : Nat} (hi : i = nI j) (hj : j < n) (hn : n < 2 ^ 31) (d : decode cc pc = .ok (.caload, 1)) (K : kJ p l e R s m args below meth c G nL cells slots Q ws (pc + 1) lv (.int (f j) :: st)) : kJ p l e R s m args below meth c G nL cells slots Q ws pc lv (.int i :: .ref a :: st) := fun H locs ls hG hl => va_cald E.1 E.2.1 E.2.2.2.2.2.1.1 (E.2.2.2.2.2.2 _ _ _ hG) q0 t0 ha ht (by rw [hi]; exact vp_in_nI hj hn) d (by rw [hi, nI_clamp (Nat.lt_trans hj hn)]; exact K H locs ls hG hl)
theorem k_zald (E : kE p s m args c own cc nL D tys G) {a : Nat} (q0 t0 : Nat) {cA : ClassId} {n : Nat} {f : Nat → Int32} (ha : ws[q0]? = some (a, .inl (cA, n, .inl f))) (ht : tys[t0]? = some (cA, .boolean)) {i : Int32} {j : Nat} (hi : i = nI j) (hj : j < n) (hn : n < 2 ^ 31) (d : decode cc pc = .ok (.baload, 1)) (K : kJ p l e R s m args below meth c G nL cells slots Q ws (pc + 1) lv (.int (f j) :: st)) : kJ p l e R s m args below meth c G nL cells slots Q ws pc lv (.int i :: .ref a :: st) := fun H locs ls hG hl => va_zald E.1 E.2.1 E.2.2.2.2.2.1.1 (E.2.2.2.2.2.2 _ _ _ hG) q0 t0 ha ht (by rw [hi]; exact vp_in_nI hj hn) d (by rw [hi, nI_clamp (Nat.lt_trans hj hn)]; exact K H locs ls hG hl)
theorem k_lald (E : kE p s m args c own cc nL D tys G) {a : Nat} (q0 t0 : Nat) {cA : ClassId} {n : Nat} {f : Nat → Int64} (ha : ws[q0]? = some (a, .inl (cA, n, .inr (.inl f)))) (ht : tys[t0]? = some (cA, .long)) {i : Int32} {j : Nat} (hi : i = nI j) (hj : j < n) (hn : n < 2 ^ 31) (d : decode cc pc = .ok (.laload, 1)) (K : kJ p l e R s m args below meth c G nL cells slots Q ws (pc + 1) lv (.long (f j) :: st)) : kJ p l e R s m args below meth c G nL cells slots Q ws pc lv (.int i :: .ref a :: st) := fun H locs ls hG hl => va_lald E.1 E.2.1 E.2.2.2.2.2.1.1 (E.2.2.2.2.2.2 _ _ _ hG) q0 t0 ha ht (by rw [hi]; exact vp_in_nI hj hn) d (by rw [hi, nI_clamp (Nat.lt_trans hj hn)]; exact K H locs ls hG hl)
theorem k_dald (E : kE p s m args c own cc nL D tys G) {a : Nat} (q0 t0 : Nat) {cA : ClassId} {n : Nat} {f : Nat → UInt64} (ha : ws[q0]? = some (a, .inl (cA, n, .inr (.inr (.inr (.inl f)))))) (ht : tys[t0]? = some (cA, .double)) {i : Int32} {j : Nat} (hi : i = nI j) (hj : j < n) (hn : n < 2 ^ 31) (d : decode cc pc = .ok (.daload, 1)) (K : kJ p l e R s m args below meth c G nL cells slots Q ws (pc + 1) lv (.double (f j) :: st)) : kJ p l e R s m args below meth c G nL cells slots Q ws pc lv (.int i :: .ref a :: st) := fun H locs ls hG hl => va_dald E.1 E.2.1 E.2.2.2.2.2.1.1 (E.2.2.2.2.2.2 _ _ _ hG) q0 t0 ha ht (by rw [hi]; exact vp_in_nI hj hn) d (by rw [hi, nI_clamp (Nat.lt_trans hj hn)]; exact K H locs ls hG hl)
theorem k_aald (E : kE p s m args c own cc nL D tys G) {a : Nat} (q0 t0 : Nat) {cA : ClassId} {ty : FieldType} {n : Nat} {f : Nat → Option Nat} (ha : ws[q0]? = some (a, .inl (cA, n, .inr (.inr (.inr (.inr f)))))) (ht : tys[t0]? = some (cA, .array ty)) {i : Int32} {j b : Nat} (hi : i = nI j) (hj : j < n) (hn : n < 2 ^ 31) (hf : f j = some b) (d : decode cc pc = .ok (.aaload, 1)) (K : kJ p l e R s m args below meth c G nL cells slots Q ws (pc + 1) lv (.ref b :: st)) : kJ p l e R s m args below meth c G nL cells slots Q ws pc lv (.int i :: .ref a :: st) := fun H locs ls hG hl => by
  have hin : vp_in i n := by rw [hi]; exact vp_in_nI hj hn
  have hcl : i.toNatClampNeg = j := by rw [hi]; exact nI_clamp (Nat.lt_trans hj hn)
  refine W.aald (v := .ref b) (ty := .array ty) E.1 E.2.1 ((E.2.2.2.2.2.2 _ _ _ hG) q0 _ ha) ((E.2.2.2.2.2.1.1.2 t0 _ ht).1 n (fun j => va_rf (f j))) rfl (fun q => by cases q) (by show ¬ (i < 0 ∨ (arrV _ _ _).slots.size ≤ _); rw [arrV_size]; exact hin) (by show (arrV _ _ _).slots[_]? = _; rw [hcl, arrV_read _ _ hj, hf]; rfl) rfl rfl d (K H locs ls hG hl)
theorem k_lv  {lv' : List (Nat × Value)} (is : List Nat) (h : lv_pick lv is = lv') (K : kJ p l e R s m args below meth c G nL cells slots Q ws pc lv' st) : kJ p l e R s m args below meth c G nL cells slots Q ws pc lv st := fun H locs ls hG hl => K H locs ls hG (lv_sub hl is h)
theorem k_lveq {lv' : List (Nat × Value)} (h : lv = lv') (K : kJ p l e R s m args below meth c G nL cells slots Q ws pc lv' st) : kJ p l e R s m args below meth c G nL cells slots Q ws pc lv st := h ▸ K
theorem k_wseq {ws' : va_W} (h : ws = ws') (K : kJ p l e R s m args below meth c G nL cells slots Q ws' pc lv st) : kJ p l e R s m args below meth c G nL cells slots Q ws pc lv st := h ▸ K
theorem k_steq {st' : List Value} (h : st = st') (K : kJ p l e R s m args below meth c G nL cells slots Q ws pc lv st') : kJ p l e R s m args below meth c G nL cells slots Q ws pc lv st := h ▸ K
theorem k_widen {k n : Nat} (h1 : cells ≤ k) (h2 : slots ≤ n) (K : kJ p l e R s m args below meth c G nL k n Q ws pc lv st) : kJ p l e R s m args below meth c G nL cells slots Q ws pc lv st := fun H locs ls hG hl => W.widen h1 h2 (K H locs ls hG hl)
theorem k_mmin (E : kE p s m args c own cc nL D tys G) {index : Nat} (hlink : Cond.methodLink own index Lib.Math.min.name ∈ lw_all) (hstat : Cond.static Lib.Math.min.name ∈ lw_all) (hini : Cond.initialized "java/lang/Math" ∈ lw_all) (hcode : Cond.code Lib.Math.min.name Lib.Math.min.code 2 (some .int) ∈ lw_all) (hf : 1 ≤ R.frames) (hlo : (st.map fun v => v.category).sum + 13 ≤ R.locals) (hc : cells ≤ R.cells) (hs : slots ≤ R.slots) {x y : Int32} (d : decode cc pc = .ok (.invokestatic index, 3)) (K : kJ p l e R s m args below meth c G nL cells slots Q ws (pc + 3) lv (.int (if y < x then y else x) :: st)) : kJ p l e R s m args below meth c G nL cells slots Q ws pc lv (.int y :: .int x :: st) := fun H locs ls hG hl => va_mmin E.1 E.2.1 (E.2.2.1.trans hl.1.symm) E.2.2.2.1 (E.2.2.2.2.1 _ hlink) (E.2.2.2.2.1 _ hstat) (E.2.2.2.2.1 _ hini) (E.2.2.2.2.1 _ hcode) hf hlo hc hs d (K H locs ls hG hl)
theorem k_mmax (E : kE p s m args c own cc nL D tys G) {index : Nat} (hlink : Cond.methodLink own index Lib.Math.max.name ∈ lw_all) (hstat : Cond.static Lib.Math.max.name ∈ lw_all) (hini : Cond.initialized "java/lang/Math" ∈ lw_all) (hcode : Cond.code Lib.Math.max.name Lib.Math.max.code 2 (some .int) ∈ lw_all) (hf : 1 ≤ R.frames) (hlo : (st.map fun v => v.category).sum + 13 ≤ R.locals) (hc : cells ≤ R.cells) (hs : slots ≤ R.slots) {x y : Int32} (d : decode cc pc = .ok (.invokestatic index, 3)) (K : kJ p l e R s m args below meth c G nL cells slots Q ws (pc + 3) lv (.int (if x < y then y else x) :: st)) : kJ p l e R s m args below meth c G nL cells slots Q ws pc lv (.int y :: .int x :: st) := fun H locs ls hG hl => va_mmax E.1 E.2.1 (E.2.2.1.trans hl.1.symm) E.2.2.2.1 (E.2.2.2.2.1 _ hlink) (E.2.2.2.2.1 _ hstat) (E.2.2.2.2.1 _ hini) (E.2.2.2.2.1 _ hcode) hf hlo hc hs d (K H locs ls hG hl)
theorem k_mabs (E : kE p s m args c own cc nL D tys G) {index : Nat} (hlink : Cond.methodLink own index Lib.Math.abs.name ∈ lw_all) (hstat : Cond.static Lib.Math.abs.name ∈ lw_all) (hini : Cond.initialized "java/lang/Math" ∈ lw_all) (hcode : Cond.code Lib.Math.abs.name Lib.Math.abs.code 1 (some .int) ∈ lw_all) (hf : 1 ≤ R.frames) (hlo : (st.map fun v => v.category).sum + 13 ≤ R.locals) (hc : cells ≤ R.cells) (hs : slots ≤ R.slots) {x : Int32} (d : decode cc pc = .ok (.invokestatic index, 3)) (K : kJ p l e R s m args below meth c G nL cells slots Q ws (pc + 3) lv (.int (if 0 ≤ x then x else 0 - x) :: st)) : kJ p l e R s m args below meth c G nL cells slots Q ws pc lv (.int x :: st) := fun H locs ls hG hl => va_mabs E.1 E.2.1 (E.2.2.1.trans hl.1.symm) E.2.2.2.1 (E.2.2.2.2.1 _ hlink) (E.2.2.2.2.1 _ hstat) (E.2.2.2.2.1 _ hini) (E.2.2.2.2.1 _ hcode) hf hlo hc hs d (K H locs ls hG hl)
theorem kRun_R {v : Option Value} {a : Array Value} {st0 : List Value} (hr : ∀ (H : Heap) (locs : List Loc) (ls : Array Slot), G ws H locs → lv_has ls nL lv → va_Run p l e R s m args below meth c H locs cells slots 0 0 (F0 m pc ls st0) st (kQr v a) (fun _ => False)) (K : kJ p l e R s m args below meth c G nL cells slots Q ws (pc + 3) lv (v.toList ++ st)) : kJ p l e R s m args below meth c G nL cells slots Q ws pc lv st0 := by
  intro H locs ls hG hl T hT X
  obtain ⟨v', st₀, t, T', L, h0, X', hL, e1, e2, ⟨ho, hh⟩, stp⟩ := hr H locs ls hG hl T hT X
  cases ho
  obtain ⟨t2, a1, b1⟩ := K H locs ls hG hl T' (by rw [e1, hh, h0]) (Stand.forget X' (fun q h => (hL q h).elim))
  exact ⟨t2, stp t2 a1, b1⟩
theorem kFB {av : List Value} {W0 : va_W} : FrameBlind (va_Pc av (fun U => va_P D kCl W0 U.heap ∧ kK D tys U)) := fun a U g mk q => ⟨q.1, q.2.1, kK.calling q.2.2⟩
theorem k_callRV {y : MethodName} {bytes : ByteArray} {maxL f lo n idx b ci : Nat} {ret : Option FieldType} {Wc : va_W} {v : Option Value} {fs : List Value} {T : u_T} {N : Nat} {st0 : List Value} (As : List Value) (E : kE p s m args c own cc nL D tys G) (hM : mR l y bytes maxL ret f lo D tys (.ref b :: As) Wc v) (F : kCF y bytes maxL ret n) (hlk : Cond.methodLink own idx y ∈ lw_all) (is : List Nat) (hs : is.filterMap (fun i => ws[i]?) = Wc) (q0 : Nat) (he : ws[q0]? = some (b, .inr (ci, fs))) (hci : kCl[ci]? = some (y.cls, T, N)) (hst : st0 = As.reverse ++ .ref b :: st) (hn : As.length = n) (hR : f + 1 ≤ R.frames ∧ 8 + (maxL + 11) + lo ≤ R.locals) (hcat : (st.map fun v => v.category).sum ≤ 8) (hc : cells ≤ R.cells ∧ slots ≤ R.slots) (d : decode cc pc = .ok (.invokevirtual idx, 3)) (K : kJ p l e R s m args below meth c G nL cells slots Q ws (pc + 3) lv (v.toList ++ st)) : kJ p l e R s m args below meth c G nL cells slots Q ws pc lv st0 := by
  subst hst
  refine kRun_R (a := (Value.ref b :: As).toArray) (fun H locs ls hG hl => ?_) K
  have hP := E.2.2.2.2.2.2 _ _ _ hG
  exact va_runV (nL := nL) (g := F0 m pc ls _) ⟨E.1, E.2.1, E.2.2.1, E.2.2.2.1, E.2.2.2.2.1⟩ hM (cwV n E.2.2.2.2.1 (kV_in F hlk) rfl rfl rfl ⟨rfl, F.2.2.2.2.1.1, F.2.2.2.2.1.2, F.2.2.2.2.2⟩ hR) ⟨kFB, va_recv E.2.2.2.2.2.1.1 hP hci he, fun U hU hW => ⟨rfl, by rw [hU]; exact hP.sub is hs, kK.moved hW E.2.2.2.2.2.1⟩⟩ rfl hn hl.1 rfl (lv_room hcat) d hc
theorem k_callRVN {y : MethodName} {bytes : ByteArray} {maxL f lo n idx b ci : Nat} {ret : Option FieldType} {Wc : va_W} {v : Option Value} {fs : List Value} {T : u_T} {N : Nat} {st0 : List Value} (As : List Value) (E : kE p s m args c own cc nL D tys G) (hM : mR l y bytes maxL ret f lo D tys (.ref b :: As) Wc v) (F : kCF y bytes maxL ret n) (hown : own = RX2) (hlk : (idx, y) ∈ kNM) (is : List Nat) (hs : is.filterMap (fun i => ws[i]?) = Wc) (q0 : Nat) (he : ws[q0]? = some (b, .inr (ci, fs))) (hci : kCl[ci]? = some (y.cls, T, N)) (hst : st0 = As.reverse ++ .ref b :: st) (hn : As.length = n) (hR : f + 1 ≤ R.frames ∧ 8 + (maxL + 11) + lo ≤ R.locals) (hcat : (st.map fun v => v.category).sum ≤ 8) (hc : cells ≤ R.cells ∧ slots ≤ R.slots) (d : decode cc pc = .ok (.invokevirtual idx, 3)) (K : kJ p l e R s m args below meth c G nL cells slots Q ws (pc + 3) lv (v.toList ++ st)) : kJ p l e R s m args below meth c G nL cells slots Q ws pc lv st0 := by
  subst hst
  subst hown
  refine kRun_R (a := (Value.ref b :: As).toArray) (fun H locs ls hG hl => ?_) K
  have hP := E.2.2.2.2.2.2 _ _ _ hG
  exact va_runVN (nL := nL) (g := F0 m pc ls _) ⟨E.1, E.2.1, E.2.2.1, E.2.2.2.1, E.2.2.2.2.1⟩ hM ⟨va_cnB n E.2.2.2.2.1 (kws_in F.1) rfl rfl rfl (E.2.2.2.2.2.1.2.2.1 _ hlk) (E.2.2.2.2.1 _ F.2.2.2.1) ⟨F.2.2.2.2.1.1, F.2.2.2.2.1.2, F.2.2.2.2.2⟩ hR, E.2.2.2.2.1 _ F.2.1, E.2.2.2.2.1 _ F.2.2.1⟩ ⟨kFB, va_recv E.2.2.2.2.2.1.1 hP hci he, fun U hU hW => ⟨rfl, by rw [hU]; exact hP.sub is hs, kK.moved hW E.2.2.2.2.2.1⟩⟩ rfl hn hl.1 rfl (lv_room hcat) d hc
theorem k_callRS {y : MethodName} {bytes : ByteArray} {maxL f lo n idx : Nat} {ret : Option FieldType} {Wc : va_W} {v : Option Value} {st0 : List Value} (As : List Value) (E : kE p s m args c own cc nL D tys G) (hM : mR l y bytes maxL ret f lo D tys As Wc v) (F : kCS y bytes maxL ret n) (hlk : Cond.methodLink own idx y ∈ lw_all) (is : List Nat) (hs : is.filterMap (fun i => ws[i]?) = Wc) (hst : st0 = As.reverse ++ st) (hn : As.length = n) (hR : f + 1 ≤ R.frames ∧ 8 + (maxL + 11) + lo ≤ R.locals) (hcat : (st.map fun v => v.category).sum ≤ 8) (hc : cells ≤ R.cells ∧ slots ≤ R.slots) (d : decode cc pc = .ok (.invokestatic idx, 3)) (K : kJ p l e R s m args below meth c G nL cells slots Q ws (pc + 3) lv (v.toList ++ st)) : kJ p l e R s m args below meth c G nL cells slots Q ws pc lv st0 := by
  subst hst
  refine kRun_R (a := As.toArray) (fun H locs ls hG hl => ?_) K
  have hP := E.2.2.2.2.2.2 _ _ _ hG
  exact va_runS (nL := nL) (g := F0 m pc ls _) ⟨E.1, E.2.1, E.2.2.1, E.2.2.2.1, E.2.2.2.2.1⟩ hM (va_cwS n E.2.2.2.2.1 (kS_in F hlk) rfl rfl rfl ⟨F.2.2.2.1.1, F.2.2.2.1.2, F.2.2.2.2⟩ hR) ⟨kFB, fun U hU hW => ⟨rfl, by rw [hU]; exact hP.sub is hs, kK.moved hW E.2.2.2.2.2.1⟩⟩ rfl hn hl.1 rfl (lv_room hcat) d hc

theorem mR.of {y : MethodName} {bytes : ByteArray} {ret : Option FieldType} {f lo : Nat} {av : List Value} {W0 : va_W} {v : Option Value} {lv' : List (Nat × Value)} (hy : plainName y.cls = true) (hlen : (lg_sl av).length ≤ nL) (hlv : lv_args 0 av = lv') (body : ∀ (p : Program) (e : Env) (s : State) (m : MethodId) (args : Array Value) (below : List Frame) (meth : Method) (c : Code), kE p s m args c y.cls bytes nL D tys (gR D s.heap) → meth.sig.returnType = ret → meth.locks = false → kJ p l e (kRm f lo) s m args below meth c (gR D s.heap) nL 0 0 (MQ below (kQr v) args s 0 0 (fun _ => False)) W0 0 lv' []) : mR l y bytes nL ret f lo D tys av W0 v := by
  refine Met.ofW (cc := bytes) (maxL := nL) (ret := ret) hy rfl ?_
  intro p e s m args below meth c s₁ B hml hv
  obtain ⟨rfl, hP, hK⟩ := hv
  have hts := atoms_spec (ws := kws y bytes nL ret) B.pre
  have hown : s.vm.findClass y.cls = some m.cls := findClass_of_methodNamed B.named
  have hl := lv_entry av (n := nL) hlen
  rw [lg_entry_eq]
  exact body p e s m _ below meth c ⟨B.exec, B.bytes, hml, hown, fun w h => hts w (List.mem_cons_of_mem _ h), hK, fun _ _ _ hG => hG.1⟩ B.returns B.notSynchronized s.heap [] _ ⟨hP, rfl, rfl⟩ (hlv ▸ hl)

theorem kr_iret {v : Option Value} {x : Int32} (E : kE p s m args c own cc nL D tys (gR D s.heap)) (hr : meth.sig.returnType = some .int) (hlk : meth.locks = false) (hv : some (Value.int x) = v) (d : decode cc pc = .ok (.ireturn, 1)) : kJ p l e R s m args below meth c (gR D s.heap) nL 0 0 (MQ below (kQr v) args s 0 0 (fun _ => False)) ws pc lv [.int x] := by
  intro H locs ls hG hl
  obtain ⟨hP, rfl, rfl⟩ := hG
  exact W.iret E.1 E.2.1 hr (fun t ht hW => ⟨by rw [hv], ht⟩) (fun q h => nomatch h) d hlk
theorem kr_lret {v : Option Value} {x : Int64} (E : kE p s m args c own cc nL D tys (gR D s.heap)) (hr : meth.sig.returnType = some .long) (hlk : meth.locks = false) (hv : some (Value.long x) = v) (d : decode cc pc = .ok (.lreturn, 1)) : kJ p l e R s m args below meth c (gR D s.heap) nL 0 0 (MQ below (kQr v) args s 0 0 (fun _ => False)) ws pc lv [.long x] := by
  intro H locs ls hG hl
  obtain ⟨hP, rfl, rfl⟩ := hG
  exact W.lret E.1 E.2.1 hr (fun t ht hW => ⟨by rw [hv], ht⟩) (fun q h => nomatch h) d hlk
theorem kr_fret {v : Option Value} {x : UInt32} (E : kE p s m args c own cc nL D tys (gR D s.heap)) (hr : meth.sig.returnType = some .float) (hlk : meth.locks = false) (hv : some (Value.float x) = v) (d : decode cc pc = .ok (.freturn, 1)) : kJ p l e R s m args below meth c (gR D s.heap) nL 0 0 (MQ below (kQr v) args s 0 0 (fun _ => False)) ws pc lv [.float x] := by
  intro H locs ls hG hl
  obtain ⟨hP, rfl, rfl⟩ := hG
  exact W.fret E.1 E.2.1 hr (fun t ht hW => ⟨by rw [hv], ht⟩) (fun q h => nomatch h) d hlk
theorem kr_dret {v : Option Value} {x : UInt64} (E : kE p s m args c own cc nL D tys (gR D s.heap)) (hr : meth.sig.returnType = some .double) (hlk : meth.locks = false) (hv : some (Value.double x) = v) (d : decode cc pc = .ok (.dreturn, 1)) : kJ p l e R s m args below meth c (gR D s.heap) nL 0 0 (MQ below (kQr v) args s 0 0 (fun _ => False)) ws pc lv [.double x] := by
  intro H locs ls hG hl
  obtain ⟨hP, rfl, rfl⟩ := hG
  exact W.dret E.1 E.2.1 hr (fun t ht hW => ⟨by rw [hv], ht⟩) (fun q h => nomatch h) d hlk
theorem kr_zret {v : Option Value} {x : Int32} {ty : FieldType} (E : kE p s m args c own cc nL D tys (gR D s.heap)) (hr : meth.sig.returnType = some ty) (hlk : meth.locks = false) (hn : narrow ty (.int x) = .int x) (hv : some (Value.int x) = v) (d : decode cc pc = .ok (.ireturn, 1)) : kJ p l e R s m args below meth c (gR D s.heap) nL 0 0 (MQ below (kQr v) args s 0 0 (fun _ => False)) ws pc lv [.int x] := by
  intro H locs ls hG hl
  obtain ⟨hP, rfl, rfl⟩ := hG
  exact W.zret E.1 E.2.1 hr hn (fun t ht hW => ⟨by rw [hv], ht⟩) (fun q h => nomatch h) d hlk
theorem kr_vret {v : Option Value} (E : kE p s m args c own cc nL D tys (gR D s.heap)) (hr : meth.sig.returnType = none) (hlk : meth.locks = false) (hv : none = v) (d : decode cc pc = .ok (.return_, 1)) : kJ p l e R s m args below meth c (gR D s.heap) nL 0 0 (MQ below (kQr v) args s 0 0 (fun _ => False)) ws pc lv [] := by
  intro H locs ls hG hl
  obtain ⟨hP, rfl, rfl⟩ := hG
  exact W.vret E.1 E.2.1 hr (fun t ht hW => ⟨by rw [hv], ht⟩) (fun q h => nomatch h) d hlk
end KR
end
section
section KW
variable {p : Program} {l : Launch} {e : Env} {R : Room} {s : State} {m : MethodId} {args : Array Value} {below : List Frame} {meth : Method} {c : Code} {cells slots : Nat} {Q : State → Prop}
variable {cc : ByteArray} {own : String} {nL pc : Nat} {D : va_G} {tys : List (ClassId × FieldType)} {A : Nat → Prop} {ws : va_W} {lv : List (Nat × Value)} {st : List Value}
theorem kPl {D : va_G} {cl : List vw_C} {a b : va_W} {H : Heap} (h : va_P D cl (a ++ b) H) : va_P D cl a H := fun k q hk => h k q (by rw [List.getElem?_append_left (List.getElem?_eq_some_iff.mp hk).1]; exact hk)
theorem kPr {D : va_G} {cl : List vw_C} {a b : va_W} {H : Heap} (h : va_P D cl (a ++ b) H) : va_P D cl b H := fun k q hk => h (a.length + k) q (by rw [List.getElem?_append_right (Nat.le_add_right _ _), Nat.add_sub_cancel_left]; exact hk)
theorem kDl {A : Nat → Prop} {a b : va_W} (h : va_D A (a ++ b)) : va_D A a := ⟨fun i j x y hi hj hxy => h.1 i j x y (by rw [List.getElem?_append_left (List.getElem?_eq_some_iff.mp hi).1]; exact hi) (by rw [List.getElem?_append_left (List.getElem?_eq_some_iff.mp hj).1]; exact hj) hxy, fun k q hk => h.2 k q (by rw [List.getElem?_append_left (List.getElem?_eq_some_iff.mp hk).1]; exact hk)⟩
theorem kDr {A : Nat → Prop} {a b : va_W} (h : va_D A (a ++ b)) : va_D A b := by
  refine ⟨fun i j x y hi hj hxy => ?_, fun k q hk => h.2 (a.length + k) q (by rw [List.getElem?_append_right (Nat.le_add_right _ _), Nat.add_sub_cancel_left]; exact hk)⟩
  have := h.1 (a.length + i) (a.length + j) x y (by rw [List.getElem?_append_right (Nat.le_add_right _ _), Nat.add_sub_cancel_left]; exact hi) (by rw [List.getElem?_append_right (Nat.le_add_right _ _), Nat.add_sub_cancel_left]; exact hj) hxy
  omega
theorem kDx {A : Nat → Prop} {a b : va_W} (h : va_D A (a ++ b)) {i j : Nat} {x y : Nat × va_E} (hi : a[i]? = some x) (hj : b[j]? = some y) : x.1 ≠ y.1 := by
  intro hxy
  have hl := (List.getElem?_eq_some_iff.mp hi).1
  have := h.1 i (a.length + j) x y (by rw [List.getElem?_append_left hl]; exact hi) (by rw [List.getElem?_append_right (Nat.le_add_right _ _), Nat.add_sub_cancel_left]; exact hj) hxy
  omega
theorem kPs {D : va_G} {cl : List vw_C} {a b c : va_W} {H : Heap} (h : va_P D cl (a ++ (b ++ c)) H) : va_P D cl b H := kPl (kPr h)
theorem kDs {A : Nat → Prop} {a b c : va_W} (h : va_D A (a ++ (b ++ c))) : va_D A b := kDl (kDr h)
/-- behind a call on the middle of a world -/
theorem k_mid {A0 : Nat → Prop} {D : va_G} {cl : List vw_C} {pre wc post w1 : va_W} {H H1 : Heap} (hP : va_P D cl (pre ++ (wc ++ post)) H) (hD : va_D A0 (pre ++ (wc ++ post))) (hk : ∀ q : Nat, q < H.size → ¬ va_A wc H.size q → H1[q]? = H[q]?) (hF : ∀ q, va_A wc H.size q → A0 q) (hP1 : va_P D cl w1 H1) (hD1 : va_D (va_A wc H.size) w1) : va_P D cl (pre ++ (w1 ++ post)) H1 ∧ va_D A0 (pre ++ (w1 ++ post)) := by
  have hPp := kPl hP
  have hPq := kPr (kPr hP)
  have na : ∀ (k : Nat) (q : Nat × va_E), pre[k]? = some q → ¬ va_A wc H.size q.1 := by
    intro k q hq h
    rcases h with ⟨j, e, h⟩ | h
    · exact kDx hD hq (j := j) (y := (q.1, e)) (by rw [List.getElem?_append_left (List.getElem?_eq_some_iff.mp h).1]; exact h) rfl
    · have := (hPp k q hq).lt
      omega
  have nb : ∀ (k : Nat) (q : Nat × va_E), post[k]? = some q → ¬ va_A wc H.size q.1 := by
    intro k q hq h
    rcases h with ⟨j, e, h⟩ | h
    · exact kDx (kDr hD) h hq rfl
    · have := (hPq k q hq).lt
      omega
  refine ⟨va_P.app (hPp.kept fun k q hq => hk q.1 (hPp k q hq).lt (na k q hq)) (va_P.app hP1 (hPq.kept fun k q hq => hk q.1 (hPq k q hq).lt (nb k q hq))), ?_⟩
  have hw1 : ∀ (k : Nat) (q : Nat × va_E), w1[k]? = some q → va_A wc H.size q.1 := fun k q hq => hD1.2 k q hq
  refine va_D.app (kDl hD) (va_D.app (hD1.weaken fun k q hq h => hF q.1 h) (kDr (kDr hD)) fun i j x y hx hy hxy => nb j y hy (by rw [← hxy]; exact hw1 i x hx)) fun i j x y hx hy hxy => ?_
  by_cases hl : j < w1.length
  · rw [List.getElem?_append_left hl] at hy
    exact na i x hx (by rw [hxy]; exact hw1 j y hy)
  · rw [List.getElem?_append_right (by omega)] at hy
    refine kDx hD hx (j := wc.length + (j - w1.length)) (y := y) ?_ hxy
    rw [List.getElem?_append_right (by omega), Nat.add_sub_cancel_left]
    exact hy
theorem k_freeM {A0 : Nat → Prop} {pre wc post : va_W} {H0 H : Heap} {locs : List Loc} (hD : va_D A0 (pre ++ (wc ++ post))) (hS : va_S A0 H0 H locs) (hA : ∀ q, H0.size ≤ q → A0 q) : ∀ q, va_A wc H.size q → A0 q := by
  intro q h
  rcases h with ⟨k, e, h⟩ | h
  · exact (kDs hD).2 k (q, e) h
  · exact hA q (Nat.le_trans hS.1 h)
theorem kZ.go {A A1 : Nat → Prop} {s U : State} {H : Heap} {locs : List Loc} (hZ : kZ A s s.heap) (hS : va_S A s.heap H locs) (hU : U.heap = H) (hW : s.WarmedH U.vm) (hn : ∀ q, A1 q → A q) : kZ A1 U U.heap := by
  rw [hU]
  exact ⟨vx_Zq.narrow (vx_Zq.moved hW.alike (hZ.1.kept hS.2.1)) hn, vx_Zq.narrow (vx_Zq.moved hW.alike (hZ.2.kept hS.2.1)) hn⟩

theorem k_put (E : kE p s m args c own cc nL D tys (gW D A s.heap)) {ref C : String} {T : u_T} {N ci index a : Nat} {ws' : va_W} (hin : ∀ w ∈ u_ws C T N, w ∈ lw_all) (ty0 : Nat → FieldType) (hty : ∀ k, k < N → parseFieldDescriptor (T k).2.2.1 = some (ty0 k)) (hnm : ∀ a, a < N → ∀ b, b < N → a ≠ b → (T a).2.1 ≠ (T b).2.1) (q0 : Nat) {fs : List Value} (he : ws[q0]? = some (a, .inr (ci, fs))) (hc : kCl[ci]? = some (C, T, N)) (k : Nat) (hk : k < N) (hlink : Cond.fieldLink own index ref (T k).2.1 (T k).2.2.1 ∈ lw_all) (hsame : (T k).1 = ref) (hfin : (T k).2.2.2 = false) {v : Value} (hn : narrow (ty0 k) v = v) (hfit : fits (ty0 k) v = true) (hl0 : k < fs.length) (hw : ws.set q0 (a, .inr (ci, fs.set k v)) = ws') (d : decode cc pc = .ok (.putfield index, 3)) (K : kJ p l e R s m args below meth c (gW D A s.heap) nL cells slots Q ws' (pc + 3) lv st) : kJ p l e R s m args below meth c (gW D A s.heap) nL cells slots Q ws pc lv (v :: .ref a :: st) := fun H locs ls hG hl => va_put E.1 E.2.1 E.2.2.2.2.1 hin ty0 hty hnm E.2.2.2.1 E.2.2.2.2.2.1.1 hG.1 hG.2.1 hG.2.2 q0 he hc k hk (E.2.2.2.2.1 _ hlink) (fun x h => by rw [← hsame]; exact h) hfin (hty k hk) hn hfit hl0 d (fun H1 locs1 hP hD hS => K H1 locs1 ls ⟨hw ▸ hP, hw ▸ hD, hS⟩ hl)
theorem k_putF (E : kE p s m args c own cc nL D tys (gW D A s.heap)) {ref C : String} {T : u_T} {N ci index a : Nat} {ws' : va_W} (hin : ∀ w ∈ u_ws C T N, w ∈ lw_all) (ty0 : Nat → FieldType) (hty : ∀ k, k < N → parseFieldDescriptor (T k).2.2.1 = some (ty0 k)) (hnm : ∀ a, a < N → ∀ b, b < N → a ≠ b → (T a).2.1 ≠ (T b).2.1) (q0 : Nat) {fs : List Value} (he : ws[q0]? = some (a, .inr (ci, fs))) (hc : kCl[ci]? = some (C, T, N)) (k : Nat) (hk : k < N) (hlink : Cond.fieldLink own index ref (T k).2.1 (T k).2.2.1 ∈ lw_all) (hsame : (T k).1 = ref) (hfin : (T k).2.2.2 = true) (hin2 : meth.name = "<init>") (hdecl : (T k).1 = own) {v : Value} (hn : narrow (ty0 k) v = v) (hfit : fits (ty0 k) v = true) (hl0 : k < fs.length) (hw : ws.set q0 (a, .inr (ci, fs.set k v)) = ws') (d : decode cc pc = .ok (.putfield index, 3)) (K : kJ p l e R s m args below meth c (gW D A s.heap) nL cells slots Q ws' (pc + 3) lv st) : kJ p l e R s m args below meth c (gW D A s.heap) nL cells slots Q ws pc lv (v :: .ref a :: st) := fun H locs ls hG hl => va_putF E.1 E.2.1 E.2.2.2.2.1 hin ty0 hty hnm E.2.2.2.1 E.2.2.2.2.2.1.1 hG.1 hG.2.1 hG.2.2 q0 he hc k hk (E.2.2.2.2.1 _ hlink) (fun x h => by rw [← hsame]; exact h) hfin hin2 hdecl (hty k hk) hn hfit hl0 d (fun H1 locs1 hP hD hS => K H1 locs1 ls ⟨hw ▸ hP, hw ▸ hD, hS⟩ hl)
theorem k_iast (E : kE p s m args c own cc nL D tys (gW D A s.heap)) {a : Nat} {ws' : va_W} (q0 t0 : Nat) {cA : ClassId} {n : Nat} {f : Nat → Int32} (ha : ws[q0]? = some (a, .inl (cA, n, .inl f))) (ht : tys[t0]? = some (cA, .int)) {i : Int32} {j : Nat} {x : Int32} {y : Int32} (hi : i = nI j) (hj : j < n) (hn : n < 2 ^ 31) (hv : x = y) (hw : ws.set q0 (a, .inl (cA, n, .inl (upd f j y))) = ws') (d : decode cc pc = .ok (.iastore, 1)) (K : kJ p l e R s m args below meth c (gW D A s.heap) nL cells slots Q ws' (pc + 1) lv st) : kJ p l e R s m args below meth c (gW D A s.heap) nL cells slots Q ws pc lv (.int x :: .int i :: .ref a :: st) := fun H locs ls hG hl => va_iast E.1 E.2.1 E.2.2.2.2.2.1.1 hG.1 hG.2.1 hG.2.2 q0 t0 ha ht (by rw [hi]; exact vp_in_nI hj hn) d (fun H1 locs1 hP hD hS => K H1 locs1 ls ⟨by rw [hi, nI_clamp (Nat.lt_trans hj hn), hv] at  hP; exact hw ▸ hP, by rw [hi, nI_clamp (Nat.lt_trans hj hn), hv] at  hD; exact hw ▸ hD, hS⟩ hl)
theorem k_cast (E : kE p s m args c own cc nL D tys (gW D A s.heap)) {a : Nat} {ws' : va_W} (q0 t0 : Nat) {cA : ClassId} {n : Nat} {f : Nat → Int32} (ha : ws[q0]? = some (a, .inl (cA, n, .inl f))) (ht : tys[t0]? = some (cA, .char)) {i : Int32} {j : Nat} {x : Int32} {y : Int32} (hi : i = nI j) (hj : j < n) (hn : n < 2 ^ 31) (hv : vp_nar .char x = y) (hw : ws.set q0 (a, .inl (cA, n, .inl (upd f j y))) = ws') (d : decode cc pc = .ok (.castore, 1)) (K : kJ p l e R s m args below meth c (gW D A s.heap) nL cells slots Q ws' (pc + 1) lv st) : kJ p l e R s m args below meth c (gW D A s.heap) nL cells slots Q ws pc lv (.int x :: .int i :: .ref a :: st) := fun H locs ls hG hl => va_cast E.1 E.2.1 E.2.2.2.2.2.1.1 hG.1 hG.2.1 hG.2.2 q0 t0 ha ht (by rw [hi]; exact vp_in_nI hj hn) d (fun H1 locs1 hP hD hS => K H1 locs1 ls ⟨by rw [hi, nI_clamp (Nat.lt_trans hj hn), hv] at  hP; exact hw ▸ hP, by rw [hi, nI_clamp (Nat.lt_trans hj hn), hv] at  hD; exact hw ▸ hD, hS⟩ hl)
theorem k_zast (E : kE p s m args c own cc nL D tys (gW D A s.heap)) {a : Nat} {ws' : va_W} (q0 t0 : Nat) {cA : ClassId} {n : Nat} {f : Nat → Int32} (ha : ws[q0]? = some (a, .inl (cA, n, .inl f))) (ht : tys[t0]? = some (cA, .boolean)) {i : Int32} {j : Nat} {x : Int32} {y : Int32} (hi : i = nI j) (hj : j < n) (hn : n < 2 ^ 31) (hv : vp_nar .boolean x = y) (hw : ws.set q0 (a, .inl (cA, n, .inl (upd f j y))) = ws') (d : decode cc pc = .ok (.bastore, 1)) (K : kJ p l e R s m args below meth c (gW D A s.heap) nL cells slots Q ws' (pc + 1) lv st) : kJ p l e R s m args below meth c (gW D A s.heap) nL cells slots Q ws pc lv (.int x :: .int i :: .ref a :: st) := fun H locs ls hG hl => va_zast E.1 E.2.1 E.2.2.2.2.2.1.1 hG.1 hG.2.1 hG.2.2 q0 t0 ha ht (by rw [hi]; exact vp_in_nI hj hn) d (fun H1 locs1 hP hD hS => K H1 locs1 ls ⟨by rw [hi, nI_clamp (Nat.lt_trans hj hn), hv] at  hP; exact hw ▸ hP, by rw [hi, nI_clamp (Nat.lt_trans hj hn), hv] at  hD; exact hw ▸ hD, hS⟩ hl)
theorem k_last (E : kE p s m args c own cc nL D tys (gW D A s.heap)) {a : Nat} {ws' : va_W} (q0 t0 : Nat) {cA : ClassId} {n : Nat} {f : Nat → Int64} (ha : ws[q0]? = some (a, .inl (cA, n, .inr (.inl f)))) (ht : tys[t0]? = some (cA, .long)) {i : Int32} {j : Nat} {x : Int64} (hi : i = nI j) (hj : j < n) (hn : n < 2 ^ 31) (hw : ws.set q0 (a, .inl (cA, n, .inr (.inl (vp_updL f j x)))) = ws') (d : decode cc pc = .ok (.lastore, 1)) (K : kJ p l e R s m args below meth c (gW D A s.heap) nL cells slots Q ws' (pc + 1) lv st) : kJ p l e R s m args below meth c (gW D A s.heap) nL cells slots Q ws pc lv (.long x :: .int i :: .ref a :: st) := fun H locs ls hG hl => va_last E.1 E.2.1 E.2.2.2.2.2.1.1 hG.1 hG.2.1 hG.2.2 q0 t0 ha ht (by rw [hi]; exact vp_in_nI hj hn) d (fun H1 locs1 hP hD hS => K H1 locs1 ls ⟨by rw [hi, nI_clamp (Nat.lt_trans hj hn)] at  hP; exact hw ▸ hP, by rw [hi, nI_clamp (Nat.lt_trans hj hn)] at  hD; exact hw ▸ hD, hS⟩ hl)
theorem k_dast (E : kE p s m args c own cc nL D tys (gW D A s.heap)) {a : Nat} {ws' : va_W} (q0 t0 : Nat) {cA : ClassId} {n : Nat} {f : Nat → UInt64} (ha : ws[q0]? = some (a, .inl (cA, n, .inr (.inr (.inr (.inl f)))))) (ht : tys[t0]? = some (cA, .double)) {i : Int32} {j : Nat} {x : UInt64} (hi : i = nI j) (hj : j < n) (hn : n < 2 ^ 31) (hw : ws.set q0 (a, .inl (cA, n, .inr (.inr (.inr (.inl (vf_upd f j x)))))) = ws') (d : decode cc pc = .ok (.dastore, 1)) (K : kJ p l e R s m args below meth c (gW D A s.heap) nL cells slots Q ws' (pc + 1) lv st) : kJ p l e R s m args below meth c (gW D A s.heap) nL cells slots Q ws pc lv (.double x :: .int i :: .ref a :: st) := fun H locs ls hG hl => va_dast E.1 E.2.1 E.2.2.2.2.2.1.1 hG.1 hG.2.1 hG.2.2 q0 t0 ha ht (by rw [hi]; exact vp_in_nI hj hn) d (fun H1 locs1 hP hD hS => K H1 locs1 ls ⟨by rw [hi, nI_clamp (Nat.lt_trans hj hn)] at  hP; exact hw ▸ hP, by rw [hi, nI_clamp (Nat.lt_trans hj hn)] at  hD; exact hw ▸ hD, hS⟩ hl)
theorem mW.of {y : MethodName} {bytes : ByteArray} {ret : Option FieldType} {f lo mc ms : Nat} {av : List Value} {W0 W1 : va_W} {v : Option Value} {lv' : List (Nat × Value)} (hy : plainName y.cls = true) (hlen : (lg_sl av).length ≤ nL) (hlv : lv_args 0 av = lv') (body : ∀ (p : Program) (e : Env) (s : State) (m : MethodId) (args : Array Value) (below : List Frame) (meth : Method) (c : Code), kE p s m args c y.cls bytes nL D tys (gW D (va_A W0 s.heap.size) s.heap) → meth.sig.returnType = ret → meth.locks = false → meth.name = y.name → (∀ q, s.heap.size ≤ q → va_A W0 s.heap.size q) → kJ p l e (kRmc f lo mc ms) s m args below meth c (gW D (va_A W0 s.heap.size) s.heap) nL 0 0 (MQ below (kQw v D W0 W1 s.heap.size) args s mc ms (va_A W0 s.heap.size)) W0 0 lv' []) : mW l y bytes nL ret f lo mc ms D tys av W0 v W1 := by
  intro sz
  refine Met.ofW (cc := bytes) (maxL := nL) (ret := ret) hy rfl ?_
  intro p e s m args below meth c s₁ B hml hv
  obtain ⟨rfl, hsz, hP, hK, hD⟩ := hv
  subst hsz
  have hts := atoms_spec (ws := kws y bytes nL ret) B.pre
  have hown : s.vm.findClass y.cls = some m.cls := findClass_of_methodNamed B.named
  have hl := lv_entry av (n := nL) hlen
  have hin : meth.name = y.name := (name_of_methodNamed B.named B.method).1
  rw [lg_entry_eq]
  exact body p e s m _ below meth c ⟨B.exec, B.bytes, hml, hown, fun w h => hts w (List.mem_cons_of_mem _ h), hK, fun _ _ _ hG => hG.1⟩ B.returns B.notSynchronized hin (fun q h => Or.inr h) s.heap [] _ ⟨hP, hD.self, va_S.rf⟩ (hlv ▸ hl)
theorem mX.of {y : MethodName} {bytes : ByteArray} {ret : Option FieldType} {f lo mc ms : Nat} {av : List Value} {W0 : va_W} {out : (Option Value × va_W) ⊕ String} {lv' : List (Nat × Value)} (hy : plainName y.cls = true) (hlen : (lg_sl av).length ≤ nL) (hlv : lv_args 0 av = lv') (body : ∀ (p : Program) (e : Env) (s : State) (m : MethodId) (args : Array Value) (below : List Frame) (meth : Method) (c : Code), kE p s m args c y.cls bytes nL D tys (gW D (va_A W0 s.heap.size) s.heap) → meth.sig.returnType = ret → meth.locks = false → (∀ x ∈ c.exceptionTable.toList, False) → kZ (va_A W0 s.heap.size) s s.heap → (∀ q, s.heap.size ≤ q → va_A W0 s.heap.size q) → kJ p l e (kRmc f lo mc ms) s m args below meth c (gW D (va_A W0 s.heap.size) s.heap) nL 0 0 (vx_MQ below (kXq out D W0 s.heap.size) (kXc out D W0 s.heap.size) args s mc ms (va_A W0 s.heap.size)) W0 0 lv' []) : mX l y bytes nL ret f lo mc ms D tys av W0 out := by
  intro sz
  refine vx_ofW (cc := bytes) (maxL := nL) (ret := ret) hy rfl ?_
  intro p e s m args below meth c s₁ B hml hex hv
  obtain ⟨rfl, hsz, hP, hK, hD, hZ⟩ := hv
  subst hsz
  have hts := atoms_spec (ws := kws y bytes nL ret) B.pre
  have hown : s.vm.findClass y.cls = some m.cls := findClass_of_methodNamed B.named
  have hl := lv_entry av (n := nL) hlen
  rw [lg_entry_eq]
  exact body p e s m _ below meth c ⟨B.exec, B.bytes, hml, hown, fun w h => hts w (List.mem_cons_of_mem _ h), hK, fun _ _ _ hG => hG.1⟩ B.returns B.notSynchronized hex hZ (fun q h => Or.inr h) s.heap [] _ ⟨hP, hD.self, va_S.rf⟩ (hlv ▸ hl)
theorem mH.of {y : MethodName} {bytes : ByteArray} {ret : Option FieldType} {hh : List (Nat × Nat × Nat × Nat)} {f lo mc ms : Nat} {av : List Value} {W0 : va_W} {out : (Option Value × va_W) ⊕ String} {lv' : List (Nat × Value)} (hy : plainName y.cls = true) (hlen : (lg_sl av).length ≤ nL) (hlv : lv_args 0 av = lv') (body : ∀ (p : Program) (e : Env) (s : State) (m : MethodId) (args : Array Value) (below : List Frame) (meth : Method) (c : Code), kE p s m args c y.cls bytes nL D tys (gW D (va_A W0 s.heap.size) s.heap) → meth.sig.returnType = ret → meth.locks = false → c.exceptionTable.toList = tableOf hh → kZ (va_A W0 s.heap.size) s s.heap → (∀ q, s.heap.size ≤ q → va_A W0 s.heap.size q) → kJ p l e (kRmc f lo mc ms) s m args below meth c (gW D (va_A W0 s.heap.size) s.heap) nL 0 0 (vx_MQ below (kXq out D W0 s.heap.size) (kXc out D W0 s.heap.size) args s mc ms (va_A W0 s.heap.size)) W0 0 lv' []) : mH l y bytes nL ret hh f lo mc ms D tys av W0 out := by
  intro sz
  refine vx_ofWH (cc := bytes) (maxL := nL) (ret := ret) (hh := hh) hy rfl ?_
  intro p e s m args below meth c s₁ B hml hv
  obtain ⟨rfl, hsz, hP, hK, hD, hZ⟩ := hv
  subst hsz
  have hts := atoms_spec (ws := kwsH y bytes nL ret hh) B.pre
  have hown : s.vm.findClass y.cls = some m.cls := findClass_of_methodNamed B.named
  have htab : c.exceptionTable.toList = tableOf hh := vx_table (x := y) B (hts _ List.mem_cons_self)
  have hl := lv_entry av (n := nL) hlen
  rw [lg_entry_eq]
  exact body p e s m _ below meth c ⟨B.exec, B.bytes, hml, hown, fun w h => hts w (List.mem_cons_of_mem _ h), hK, fun _ _ _ hG => hG.1⟩ B.returns B.notSynchronized htab hZ (fun q h => Or.inr h) s.heap [] _ ⟨hP, hD.self, va_S.rf⟩ (hlv ▸ hl)

theorem kw_iret {W0 W1 : va_W} {v : Option Value} {mc ms : Nat} (E : kE p s m args c own cc nL D tys (gW D (va_A W0 s.heap.size) s.heap)) {x : Int32} (hr : meth.sig.returnType = some .int) (hlk : meth.locks = false) (hv : some (Value.int x) = v) (hw : ws = W1) (hc : cells ≤ mc) (hs : slots ≤ ms) (d : decode cc pc = .ok (.ireturn, 1)) : kJ p l e R s m args below meth c (gW D (va_A W0 s.heap.size) s.heap) nL cells slots (MQ below (kQw v D W0 W1 s.heap.size) args s mc ms (va_A W0 s.heap.size)) ws pc lv [.int x] := by
  intro H locs ls hG hl
  obtain ⟨hP, hD, hS⟩ := hG
  subst hw
  refine W.widen hc hs ?_
  exact W.iret E.1 E.2.1 hr (fun t ht hW => ⟨by rw [hv], by rw [ht]; exact hP, hD, hS.F ht⟩) hS.2.2 d hlk
theorem kx_iret {W0 W1 : va_W} {v : Option Value} {out : (Option Value × va_W) ⊕ String} {mc ms : Nat} (E : kE p s m args c own cc nL D tys (gW D (va_A W0 s.heap.size) s.heap)) {x : Int32} (hr : meth.sig.returnType = some .int) (hlk : meth.locks = false) (ho : out = .inl (v, W1)) (hv : some (Value.int x) = v) (hw : ws = W1) (hc : cells ≤ mc) (hs : slots ≤ ms) (d : decode cc pc = .ok (.ireturn, 1)) : kJ p l e R s m args below meth c (gW D (va_A W0 s.heap.size) s.heap) nL cells slots (vx_MQ below (kXq out D W0 s.heap.size) (kXc out D W0 s.heap.size) args s mc ms (va_A W0 s.heap.size)) ws pc lv [.int x] := by
  intro H locs ls hG hl
  obtain ⟨hP, hD, hS⟩ := hG
  subst hw
  refine W.widen hc hs (vx_ret ?_)
  exact W.iret E.1 E.2.1 hr (fun t ht hW => ⟨_, _, ho, by rw [hv], by rw [ht]; exact hP, hD, hS.F ht⟩) hS.2.2 d hlk
theorem kw_zret {W0 W1 : va_W} {v : Option Value} {mc ms : Nat} (E : kE p s m args c own cc nL D tys (gW D (va_A W0 s.heap.size) s.heap)) {x : Int32} {ty : FieldType} (hn : narrow ty (.int x) = .int x) (hr : meth.sig.returnType = some ty) (hlk : meth.locks = false) (hv : some (Value.int x) = v) (hw : ws = W1) (hc : cells ≤ mc) (hs : slots ≤ ms) (d : decode cc pc = .ok (.ireturn, 1)) : kJ p l e R s m args below meth c (gW D (va_A W0 s.heap.size) s.heap) nL cells slots (MQ below (kQw v D W0 W1 s.heap.size) args s mc ms (va_A W0 s.heap.size)) ws pc lv [.int x] := by
  intro H locs ls hG hl
  obtain ⟨hP, hD, hS⟩ := hG
  subst hw
  refine W.widen hc hs ?_
  exact W.zret E.1 E.2.1 hr hn (fun t ht hW => ⟨by rw [hv], by rw [ht]; exact hP, hD, hS.F ht⟩) hS.2.2 d hlk
theorem kx_zret {W0 W1 : va_W} {v : Option Value} {out : (Option Value × va_W) ⊕ String} {mc ms : Nat} (E : kE p s m args c own cc nL D tys (gW D (va_A W0 s.heap.size) s.heap)) {x : Int32} {ty : FieldType} (hn : narrow ty (.int x) = .int x) (hr : meth.sig.returnType = some ty) (hlk : meth.locks = false) (ho : out = .inl (v, W1)) (hv : some (Value.int x) = v) (hw : ws = W1) (hc : cells ≤ mc) (hs : slots ≤ ms) (d : decode cc pc = .ok (.ireturn, 1)) : kJ p l e R s m args below meth c (gW D (va_A W0 s.heap.size) s.heap) nL cells slots (vx_MQ below (kXq out D W0 s.heap.size) (kXc out D W0 s.heap.size) args s mc ms (va_A W0 s.heap.size)) ws pc lv [.int x] := by
  intro H locs ls hG hl
  obtain ⟨hP, hD, hS⟩ := hG
  subst hw
  refine W.widen hc hs (vx_ret ?_)
  exact W.zret E.1 E.2.1 hr hn (fun t ht hW => ⟨_, _, ho, by rw [hv], by rw [ht]; exact hP, hD, hS.F ht⟩) hS.2.2 d hlk
theorem kw_lret {W0 W1 : va_W} {v : Option Value} {mc ms : Nat} (E : kE p s m args c own cc nL D tys (gW D (va_A W0 s.heap.size) s.heap)) {x : Int64} (hr : meth.sig.returnType = some .long) (hlk : meth.locks = false) (hv : some (Value.long x) = v) (hw : ws = W1) (hc : cells ≤ mc) (hs : slots ≤ ms) (d : decode cc pc = .ok (.lreturn, 1)) : kJ p l e R s m args below meth c (gW D (va_A W0 s.heap.size) s.heap) nL cells slots (MQ below (kQw v D W0 W1 s.heap.size) args s mc ms (va_A W0 s.heap.size)) ws pc lv [.long x] := by
  intro H locs ls hG hl
  obtain ⟨hP, hD, hS⟩ := hG
  subst hw
  refine W.widen hc hs ?_
  exact W.lret E.1 E.2.1 hr (fun t ht hW => ⟨by rw [hv], by rw [ht]; exact hP, hD, hS.F ht⟩) hS.2.2 d hlk
theorem kx_lret {W0 W1 : va_W} {v : Option Value} {out : (Option Value × va_W) ⊕ String} {mc ms : Nat} (E : kE p s m args c own cc nL D tys (gW D (va_A W0 s.heap.size) s.heap)) {x : Int64} (hr : meth.sig.returnType = some .long) (hlk : meth.locks = false) (ho : out = .inl (v, W1)) (hv : some (Value.long x) = v) (hw : ws = W1) (hc : cells ≤ mc) (hs : slots ≤ ms) (d : decode cc pc = .ok (.lreturn, 1)) : kJ p l e R s m args below meth c (gW D (va_A W0 s.heap.size) s.heap) nL cells slots (vx_MQ below (kXq out D W0 s.heap.size) (kXc out D W0 s.heap.size) args s mc ms (va_A W0 s.heap.size)) ws pc lv [.long x] := by
  intro H locs ls hG hl
  obtain ⟨hP, hD, hS⟩ := hG
  subst hw
  refine W.widen hc hs (vx_ret ?_)
  exact W.lret E.1 E.2.1 hr (fun t ht hW => ⟨_, _, ho, by rw [hv], by rw [ht]; exact hP, hD, hS.F ht⟩) hS.2.2 d hlk
theorem kw_fret {W0 W1 : va_W} {v : Option Value} {mc ms : Nat} (E : kE p s m args c own cc nL D tys (gW D (va_A W0 s.heap.size) s.heap)) {x : UInt32} (hr : meth.sig.returnType = some .float) (hlk : meth.locks = false) (hv : some (Value.float x) = v) (hw : ws = W1) (hc : cells ≤ mc) (hs : slots ≤ ms) (d : decode cc pc = .ok (.freturn, 1)) : kJ p l e R s m args below meth c (gW D (va_A W0 s.heap.size) s.heap) nL cells slots (MQ below (kQw v D W0 W1 s.heap.size) args s mc ms (va_A W0 s.heap.size)) ws pc lv [.float x] := by
  intro H locs ls hG hl
  obtain ⟨hP, hD, hS⟩ := hG
  subst hw
  refine W.widen hc hs ?_
  exact W.fret E.1 E.2.1 hr (fun t ht hW => ⟨by rw [hv], by rw [ht]; exact hP, hD, hS.F ht⟩) hS.2.2 d hlk
theorem kx_fret {W0 W1 : va_W} {v : Option Value} {out : (Option Value × va_W) ⊕ String} {mc ms : Nat} (E : kE p s m args c own cc nL D tys (gW D (va_A W0 s.heap.size) s.heap)) {x : UInt32} (hr : meth.sig.returnType = some .float) (hlk : meth.locks = false) (ho : out = .inl (v, W1)) (hv : some (Value.float x) = v) (hw : ws = W1) (hc : cells ≤ mc) (hs : slots ≤ ms) (d : decode cc pc = .ok (.freturn, 1)) : kJ p l e R s m args below meth c (gW D (va_A W0 s.heap.size) s.heap) nL cells slots (vx_MQ below (kXq out D W0 s.heap.size) (kXc out D W0 s.heap.size) args s mc ms (va_A W0 s.heap.size)) ws pc lv [.float x] := by
  intro H locs ls hG hl
  obtain ⟨hP, hD, hS⟩ := hG
  subst hw
  refine W.widen hc hs (vx_ret ?_)
  exact W.fret E.1 E.2.1 hr (fun t ht hW => ⟨_, _, ho, by rw [hv], by rw [ht]; exact hP, hD, hS.F ht⟩) hS.2.2 d hlk
theorem kw_dret {W0 W1 : va_W} {v : Option Value} {mc ms : Nat} (E : kE p s m args c own cc nL D tys (gW D (va_A W0 s.heap.size) s.heap)) {x : UInt64} (hr : meth.sig.returnType = some .double) (hlk : meth.locks = false) (hv : some (Value.double x) = v) (hw : ws = W1) (hc : cells ≤ mc) (hs : slots ≤ ms) (d : decode cc pc = .ok (.dreturn, 1)) : kJ p l e R s m args below meth c (gW D (va_A W0 s.heap.size) s.heap) nL cells slots (MQ below (kQw v D W0 W1 s.heap.size) args s mc ms (va_A W0 s.heap.size)) ws pc lv [.double x] := by
  intro H locs ls hG hl
  obtain ⟨hP, hD, hS⟩ := hG
  subst hw
  refine W.widen hc hs ?_
  exact W.dret E.1 E.2.1 hr (fun t ht hW => ⟨by rw [hv], by rw [ht]; exact hP, hD, hS.F ht⟩) hS.2.2 d hlk
theorem kx_dret {W0 W1 : va_W} {v : Option Value} {out : (Option Value × va_W) ⊕ String} {mc ms : Nat} (E : kE p s m args c own cc nL D tys (gW D (va_A W0 s.heap.size) s.heap)) {x : UInt64} (hr : meth.sig.returnType = some .double) (hlk : meth.locks = false) (ho : out = .inl (v, W1)) (hv : some (Value.double x) = v) (hw : ws = W1) (hc : cells ≤ mc) (hs : slots ≤ ms) (d : decode cc pc = .ok (.dreturn, 1)) : kJ p l e R s m args below meth c (gW D (va_A W0 s.heap.size) s.heap) nL cells slots (vx_MQ below (kXq out D W0 s.heap.size) (kXc out D W0 s.heap.size) args s mc ms (va_A W0 s.heap.size)) ws pc lv [.double x] := by
  intro H locs ls hG hl
  obtain ⟨hP, hD, hS⟩ := hG
  subst hw
  refine W.widen hc hs (vx_ret ?_)
  exact W.dret E.1 E.2.1 hr (fun t ht hW => ⟨_, _, ho, by rw [hv], by rw [ht]; exact hP, hD, hS.F ht⟩) hS.2.2 d hlk
theorem kw_vret {W0 W1 : va_W} {v : Option Value} {mc ms : Nat} (E : kE p s m args c own cc nL D tys (gW D (va_A W0 s.heap.size) s.heap)) (hr : meth.sig.returnType = none) (hlk : meth.locks = false) (hv : none = v) (hw : ws = W1) (hc : cells ≤ mc) (hs : slots ≤ ms) (d : decode cc pc = .ok (.return_, 1)) : kJ p l e R s m args below meth c (gW D (va_A W0 s.heap.size) s.heap) nL cells slots (MQ below (kQw v D W0 W1 s.heap.size) args s mc ms (va_A W0 s.heap.size)) ws pc lv [] := by
  intro H locs ls hG hl
  obtain ⟨hP, hD, hS⟩ := hG
  subst hw
  refine W.widen hc hs ?_
  exact W.vret E.1 E.2.1 hr (fun t ht hW => ⟨by rw [hv], by rw [ht]; exact hP, hD, hS.F ht⟩) hS.2.2 d hlk
theorem kx_vret {W0 W1 : va_W} {v : Option Value} {out : (Option Value × va_W) ⊕ String} {mc ms : Nat} (E : kE p s m args c own cc nL D tys (gW D (va_A W0 s.heap.size) s.heap)) (hr : meth.sig.returnType = none) (hlk : meth.locks = false) (ho : out = .inl (v, W1)) (hv : none = v) (hw : ws = W1) (hc : cells ≤ mc) (hs : slots ≤ ms) (d : decode cc pc = .ok (.return_, 1)) : kJ p l e R s m args below meth c (gW D (va_A W0 s.heap.size) s.heap) nL cells slots (vx_MQ below (kXq out D W0 s.heap.size) (kXc out D W0 s.heap.size) args s mc ms (va_A W0 s.heap.size)) ws pc lv [] := by
  intro H locs ls hG hl
  obtain ⟨hP, hD, hS⟩ := hG
  subst hw
  refine W.widen hc hs (vx_ret ?_)
  exact W.vret E.1 E.2.1 hr (fun t ht hW => ⟨_, _, ho, by rw [hv], by rw [ht]; exact hP, hD, hS.F ht⟩) hS.2.2 d hlk
theorem kRun_W {v : Option Value} {a : Array Value} {st0 : List Value} {pre post Wc W1 : va_W} {mc ms : Nat} (hws : ws = pre ++ (Wc ++ post)) {ws' : va_W} (hws' : pre ++ (W1 ++ post) = ws') (hA : ∀ q, s.heap.size ≤ q → A q) (hr : ∀ (H : Heap) (locs : List Loc) (ls : Array Slot), gW D A s.heap ws H locs → lv_has ls nL lv → va_Run p l e R s m args below meth c H locs cells slots mc ms (F0 m pc ls st0) st (kQw v D Wc W1 H.size a) (va_A Wc H.size)) (K : kJ p l e R s m args below meth c (gW D A s.heap) nL (cells + mc) (slots + ms) Q ws' (pc + 3) lv (v.toList ++ st)) : kJ p l e R s m args below meth c (gW D A s.heap) nL cells slots Q ws pc lv st0 := by
  intro H locs ls hG hl T hT X
  obtain ⟨v', st₀, t, T', L, h0, X', hL, e1, e2, ⟨ho, hP1, hD1, hF1⟩, stp⟩ := hr H locs ls hG hl T hT X
  cases ho
  obtain ⟨hP, hD, hS⟩ := hG
  subst hws
  have hFc := k_freeM hD hS hA
  obtain ⟨k1, k2, k3⟩ := vx_keep h0 e1 hS (fun q _ h => hFc q h) hFc hL hF1
  rw [← e1] at hP1
  obtain ⟨hP2, hD2⟩ := k_mid hP hD k2 hFc hP1 hD1
  obtain ⟨t2, a1, b1⟩ := K T'.heap _ ls ⟨hws' ▸ hP2, hws' ▸ hD2, k3⟩ hl T' rfl X'
  exact ⟨t2, stp t2 a1, b1⟩
theorem kFBw {av : List Value} {W0 : va_W} {sz : Nat} : FrameBlind (va_Pc av (fun U => U.heap.size = sz ∧ va_P D kCl W0 U.heap ∧ kK D tys U ∧ va_D (fun _ => True) W0)) := fun a U g mk q => ⟨q.1, q.2.1, q.2.2.1, kK.calling q.2.2.2.1, q.2.2.2.2⟩
theorem kZ.calling {A : Nat → Prop} {U : State} {g : JFrame} {mk : MethodId} {a : Array Value} (h : kZ A U U.heap) : kZ A (U.calling g mk a) (U.calling g mk a).heap := ⟨vx_Zq.moved (u := U) (U := U.calling g mk a) (Vm.Alike.refl U.vm) h.1, vx_Zq.moved (u := U) (U := U.calling g mk a) (Vm.Alike.refl U.vm) h.2⟩
theorem kFBx {av : List Value} {W0 : va_W} {sz : Nat} : FrameBlind (kPx av D tys W0 sz) := fun a U g mk q => ⟨q.1, q.2.1, q.2.2.1, kK.calling q.2.2.2.1, q.2.2.2.2.1, kZ.calling q.2.2.2.2.2⟩
theorem k_callWV {y : MethodName} {bytes : ByteArray} {maxL f lo n idx b ci mc ms : Nat} {ret : Option FieldType} {Wc W1 : va_W} {v : Option Value} {fs : List Value} {T : u_T} {N : Nat} {st0 : List Value} (As : List Value) (E : kE p s m args c own cc nL D tys (gW D A s.heap)) (hA : ∀ q, s.heap.size ≤ q → A q) (hM : mW l y bytes maxL ret f lo mc ms D tys (.ref b :: As) Wc v W1) (F : kCF y bytes maxL ret n) (hlk : Cond.methodLink own idx y ∈ lw_all) (pre post : va_W) {ws' : va_W} (hws : ws = pre ++ (Wc ++ post)) (hws' : pre ++ (W1 ++ post) = ws') (q0 : Nat) (he : ws[q0]? = some (b, .inr (ci, fs))) (hci : kCl[ci]? = some (y.cls, T, N)) (hst : st0 = As.reverse ++ .ref b :: st) (hn : As.length = n) (hR : f + 1 ≤ R.frames ∧ 8 + (maxL + 11) + lo ≤ R.locals) (hcat : (st.map fun v => v.category).sum ≤ 8) (hc : cells + mc ≤ R.cells ∧ slots + ms ≤ R.slots) (d : decode cc pc = .ok (.invokevirtual idx, 3)) (K : kJ p l e R s m args below meth c (gW D A s.heap) nL (cells + mc) (slots + ms) Q ws' (pc + 3) lv (v.toList ++ st)) : kJ p l e R s m args below meth c (gW D A s.heap) nL cells slots Q ws pc lv st0 := by
  subst hst
  refine kRun_W (a := (Value.ref b :: As).toArray) hws hws' hA (fun H locs ls hG hl => ?_) K
  exact va_runV (nL := nL) (g := F0 m pc ls _) ⟨E.1, E.2.1, E.2.2.1, E.2.2.2.1, E.2.2.2.2.1⟩ (hM H.size) (cwV n E.2.2.2.2.1 (kV_in F hlk) rfl rfl rfl ⟨rfl, F.2.2.2.2.1.1, F.2.2.2.2.1.2, F.2.2.2.2.2⟩ hR) ⟨kFBw, va_recv E.2.2.2.2.2.1.1 hG.1 hci he, fun U hU hW => ⟨rfl, by rw [hU], by rw [hU]; exact kPs (hws ▸ hG.1), kK.moved hW E.2.2.2.2.2.1, (kDs (hws ▸ hG.2.1)).weaken (fun _ _ _ _ => trivial)⟩⟩ rfl hn hl.1 rfl (lv_room hcat) d hc
theorem k_callWVN {y : MethodName} {bytes : ByteArray} {maxL f lo n idx b ci mc ms : Nat} {ret : Option FieldType} {Wc W1 : va_W} {v : Option Value} {fs : List Value} {T : u_T} {N : Nat} {st0 : List Value} (As : List Value) (E : kE p s m args c own cc nL D tys (gW D A s.heap)) (hA : ∀ q, s.heap.size ≤ q → A q) (hM : mW l y bytes maxL ret f lo mc ms D tys (.ref b :: As) Wc v W1) (F : kCF y bytes maxL ret n) (hown : own = RX2) (hlk : (idx, y) ∈ kNM) (pre post : va_W) {ws' : va_W} (hws : ws = pre ++ (Wc ++ post)) (hws' : pre ++ (W1 ++ post) = ws') (q0 : Nat) (he : ws[q0]? = some (b, .inr (ci, fs))) (hci : kCl[ci]? = some (y.cls, T, N)) (hst : st0 = As.reverse ++ .ref b :: st) (hn : As.length = n) (hR : f + 1 ≤ R.frames ∧ 8 + (maxL + 11) + lo ≤ R.locals) (hcat : (st.map fun v => v.category).sum ≤ 8) (hc : cells + mc ≤ R.cells ∧ slots + ms ≤ R.slots) (d : decode cc pc = .ok (.invokevirtual idx, 3)) (K : kJ p l e R s m args below meth c (gW D A s.heap) nL (cells + mc) (slots + ms) Q ws' (pc + 3) lv (v.toList ++ st)) : kJ p l e R s m args below meth c (gW D A s.heap) nL cells slots Q ws pc lv st0 := by
  subst hst
  subst hown
  refine kRun_W (a := (Value.ref b :: As).toArray) hws hws' hA (fun H locs ls hG hl => ?_) K
  exact va_runVN (nL := nL) (g := F0 m pc ls _) ⟨E.1, E.2.1, E.2.2.1, E.2.2.2.1, E.2.2.2.2.1⟩ (hM H.size) ⟨va_cnB n E.2.2.2.2.1 (kws_in F.1) rfl rfl rfl (E.2.2.2.2.2.1.2.2.1 _ hlk) (E.2.2.2.2.1 _ F.2.2.2.1) ⟨F.2.2.2.2.1.1, F.2.2.2.2.1.2, F.2.2.2.2.2⟩ hR, E.2.2.2.2.1 _ F.2.1, E.2.2.2.2.1 _ F.2.2.1⟩ ⟨kFBw, va_recv E.2.2.2.2.2.1.1 hG.1 hci he, fun U hU hW => ⟨rfl, by rw [hU], by rw [hU]; exact kPs (hws ▸ hG.1), kK.moved hW E.2.2.2.2.2.1, (kDs (hws ▸ hG.2.1)).weaken (fun _ _ _ _ => trivial)⟩⟩ rfl hn hl.1 rfl (lv_room hcat) d hc
theorem k_callI {y : MethodName} {bytes : ByteArray} {maxL f lo n idx b mc ms : Nat} {Wc W1 : va_W} {st0 : List Value} (As : List Value) (E : kE p s m args c own cc nL D tys (gW D A s.heap)) (hA : ∀ q, s.heap.size ≤ q → A q) (hM : mW l y bytes maxL none f lo mc ms D tys (.ref b :: As) Wc none W1) (F : kCI y bytes maxL n) (hlk : Cond.methodLink own idx y ∈ lw_all) (pre post : va_W) {ws' : va_W} (hws : ws = pre ++ (Wc ++ post)) (hws' : pre ++ (W1 ++ post) = ws') (hst : st0 = As.reverse ++ .ref b :: st) (hn : As.length = n) (hR : f + 1 ≤ R.frames ∧ 8 + (maxL + 11) + lo ≤ R.locals) (hcat : (st.map fun v => v.category).sum ≤ 8) (hc : cells + mc ≤ R.cells ∧ slots + ms ≤ R.slots) (d : decode cc pc = .ok (.invokespecial idx, 3)) (K : kJ p l e R s m args below meth c (gW D A s.heap) nL (cells + mc) (slots + ms) Q ws' (pc + 3) lv st) : kJ p l e R s m args below meth c (gW D A s.heap) nL cells slots Q ws pc lv st0 := by
  subst hst
  refine kRun_W (v := none) (a := (Value.ref b :: As).toArray) hws hws' hA (fun H locs ls hG hl => ?_) K
  exact va_runI (nL := nL) (g := F0 m pc ls _) ⟨E.1, E.2.1, E.2.2.1, E.2.2.2.1, E.2.2.2.2.1⟩ (hM H.size) (cwI n E.2.2.2.2.1 (kws_in F.1) rfl rfl rfl (E.2.2.2.2.1 _ F.2.2.1) (E.2.2.2.2.1 _ hlk) (E.2.2.2.2.1 _ F.2.1) F.2.2.2.1 ⟨F.2.2.2.2.1.1, F.2.2.2.2.1.2, F.2.2.2.2.2⟩ hR) ⟨kFBw, fun U hU hW => ⟨rfl, by rw [hU], by rw [hU]; exact kPs (hws ▸ hG.1), kK.moved hW E.2.2.2.2.2.1, (kDs (hws ▸ hG.2.1)).weaken (fun _ _ _ _ => trivial)⟩⟩ rfl hn hl.1 rfl (lv_room hcat) d hc
theorem k_callIN {y : MethodName} {bytes : ByteArray} {maxL f lo n idx b mc ms : Nat} {Wc W1 : va_W} {st0 : List Value} (As : List Value) (E : kE p s m args c own cc nL D tys (gW D A s.heap)) (hA : ∀ q, s.heap.size ≤ q → A q) (hM : mW l y bytes maxL none f lo mc ms D tys (.ref b :: As) Wc none W1) (F : kCI y bytes maxL n) (hown : own = RX2) (hlk : (idx, y) ∈ kNM) (pre post : va_W) {ws' : va_W} (hws : ws = pre ++ (Wc ++ post)) (hws' : pre ++ (W1 ++ post) = ws') (hst : st0 = As.reverse ++ .ref b :: st) (hn : As.length = n) (hR : f + 1 ≤ R.frames ∧ 8 + (maxL + 11) + lo ≤ R.locals) (hcat : (st.map fun v => v.category).sum ≤ 8) (hc : cells + mc ≤ R.cells ∧ slots + ms ≤ R.slots) (d : decode cc pc = .ok (.invokespecial idx, 3)) (K : kJ p l e R s m args below meth c (gW D A s.heap) nL (cells + mc) (slots + ms) Q ws' (pc + 3) lv st) : kJ p l e R s m args below meth c (gW D A s.heap) nL cells slots Q ws pc lv st0 := by
  subst hst
  subst hown
  refine kRun_W (v := none) (a := (Value.ref b :: As).toArray) hws hws' hA (fun H locs ls hG hl => ?_) K
  exact va_runIN (nL := nL) (g := F0 m pc ls _) ⟨E.1, E.2.1, E.2.2.1, E.2.2.2.1, E.2.2.2.2.1⟩ (hM H.size) ⟨va_cnB n E.2.2.2.2.1 (kws_in F.1) rfl rfl rfl (E.2.2.2.2.2.1.2.2.1 _ hlk) (E.2.2.2.2.1 _ F.2.2.1) ⟨F.2.2.2.2.1.1, F.2.2.2.2.1.2, F.2.2.2.2.2⟩ hR, F.2.2.2.1, E.2.2.2.2.1 _ F.2.1⟩ ⟨kFBw, fun U hU hW => ⟨rfl, by rw [hU], by rw [hU]; exact kPs (hws ▸ hG.1), kK.moved hW E.2.2.2.2.2.1, (kDs (hws ▸ hG.2.1)).weaken (fun _ _ _ _ => trivial)⟩⟩ rfl hn hl.1 rfl (lv_room hcat) d hc
theorem kRun_X {a : Array Value} {st0 : List Value} {pre post Wc : va_W} {out : (Option Value × va_W) ⊕ String} {mc ms : Nat} (hws : ws = pre ++ (Wc ++ post)) (hA : ∀ q, s.heap.size ≤ q → A q) (hr : ∀ (H : Heap) (locs : List Loc) (ls : Array Slot), gW D A s.heap ws H locs → lv_has ls nL lv → vx_Run p l e R s m args below meth c H locs cells slots mc ms (F0 m pc ls st0) st (kXq out D Wc H.size a) (kXc out D Wc H.size) (va_A Wc H.size)) (KK : ∀ (v : Option Value) (W1 : va_W), out = .inl (v, W1) → kJ p l e R s m args below meth c (gW D A s.heap) nL (cells + mc) (slots + ms) Q (pre ++ (W1 ++ post)) (pc + 3) lv (v.toList ++ st)) (KT : ∀ X : String, out = .inr X → kX p l e R s m args below meth c (gW D A s.heap) nL (cells + mc) (slots + ms) Q ws pc lv st X) : kJ p l e R s m args below meth c (gW D A s.heap) nL cells slots Q ws pc lv st0 := by
  intro H locs ls hG hl T hT X
  rcases hr H locs ls hG hl T hT X with ⟨v', st₀, t, T', L, h0, X', hL, e1, e2, ⟨v, W1, ho, hv, hP1, hD1, hF1⟩, stp⟩ | ⟨q, st₀, t, T', L, E, ce, h0, X', hL, e1, e2, ⟨ho, hP1, hD1, hF1⟩, hce, hcv, hcl, stp⟩
  · cases hv
    obtain ⟨hP, hD, hS⟩ := hG
    subst hws
    have hFc := k_freeM hD hS hA
    obtain ⟨k1, k2, k3⟩ := vx_keep h0 e1 hS (fun q _ h => hFc q h) hFc hL hF1
    rw [← e1] at hP1
    obtain ⟨hP2, hD2⟩ := k_mid hP hD k2 hFc hP1 hD1
    obtain ⟨t2, a1, b1⟩ := KK _ _ ho T'.heap _ ls ⟨hP2, hD2, k3⟩ hl T' rfl X'
    exact ⟨t2, stp t2 a1, b1⟩
  · obtain ⟨hP, hD, hS⟩ := hG
    have hP' := hP
    have hD' := hD
    rw [hws] at hP' hD'
    have hFc := k_freeM hD' hS hA
    obtain ⟨k1, k2, k3⟩ := vx_keep h0 e1 hS (fun q _ h => hFc q h) hFc hL hF1
    rw [← e1] at hP1
    obtain ⟨hP2, hD2⟩ := k_mid hP' hD' k2 hFc hP1 hD1
    obtain ⟨t2, a1, b1⟩ := KT E ho T'.heap (locs ++ L) ls q ce ⟨hws ▸ hP2, hws ▸ hD2, k3⟩ hl (by rw [e1]; exact hce) hcv hcl T' rfl X'
    exact ⟨t2, stp.trans a1, b1⟩
theorem k_callXV {y : MethodName} {bytes : ByteArray} {maxL f lo n idx b ci mc ms : Nat} {ret : Option FieldType} {Wc : va_W} {out : (Option Value × va_W) ⊕ String} {fs : List Value} {T : u_T} {N : Nat} {st0 : List Value} (As : List Value) (E : kE p s m args c own cc nL D tys (gW D A s.heap)) (hA : ∀ q, s.heap.size ≤ q → A q) (hZ : kZ A s s.heap) (hM : mX l y bytes maxL ret f lo mc ms D tys (.ref b :: As) Wc out) (F : kCF y bytes maxL ret n) (hlk : Cond.methodLink own idx y ∈ lw_all) (pre post : va_W) (hws : ws = pre ++ (Wc ++ post)) (q0 : Nat) (he : ws[q0]? = some (b, .inr (ci, fs))) (hci : kCl[ci]? = some (y.cls, T, N)) (hst : st0 = As.reverse ++ .ref b :: st) (hn : As.length = n) (hR : f + 1 ≤ R.frames ∧ 8 + (maxL + 11) + lo ≤ R.locals) (hcat : (st.map fun v => v.category).sum ≤ 8) (hc : cells + mc ≤ R.cells ∧ slots + ms ≤ R.slots) (d : decode cc pc = .ok (.invokevirtual idx, 3)) (KK : ∀ (v : Option Value) (W1 : va_W), out = .inl (v, W1) → kJ p l e R s m args below meth c (gW D A s.heap) nL (cells + mc) (slots + ms) Q (pre ++ (W1 ++ post)) (pc + 3) lv (v.toList ++ st)) (KT : ∀ X : String, out = .inr X → kX p l e R s m args below meth c (gW D A s.heap) nL (cells + mc) (slots + ms) Q ws pc lv st X) : kJ p l e R s m args below meth c (gW D A s.heap) nL cells slots Q ws pc lv st0 := by
  subst hst
  refine kRun_X (a := (Value.ref b :: As).toArray) hws hA (fun H locs ls hG hl => ?_) KK KT
  exact vx_runV (nL := nL) (g := F0 m pc ls _) ⟨E.1, E.2.1, E.2.2.1, E.2.2.2.1, E.2.2.2.2.1⟩ (hM H.size) (cwV n E.2.2.2.2.1 (kV_in F hlk) rfl rfl rfl ⟨rfl, F.2.2.2.2.1.1, F.2.2.2.2.1.2, F.2.2.2.2.2⟩ hR) ⟨kFBx, va_recv E.2.2.2.2.2.1.1 hG.1 hci he, fun U hU hW => ⟨rfl, by rw [hU], by rw [hU]; exact kPs (hws ▸ hG.1), kK.moved hW E.2.2.2.2.2.1, (kDs (hws ▸ hG.2.1)).weaken (fun _ _ _ _ => trivial), kZ.go hZ hG.2.2 hU hW (k_freeM (hws ▸ hG.2.1) hG.2.2 hA)⟩⟩ rfl hn hl.1 rfl (lv_room hcat) d hc
theorem k_xout {W0 : va_W} {out : (Option Value × va_W) ⊕ String} {mc ms : Nat} {X : String} (hlk : meth.locks = false) (hex : ∀ x ∈ c.exceptionTable.toList, False) (ho : out = .inr X) (hw : ws = W0) (hc : cells ≤ mc) (hs : slots ≤ ms) : kX p l e R s m args below meth c (gW D (va_A W0 s.heap.size) s.heap) nL cells slots (vx_MQ below (kXq out D W0 s.heap.size) (kXc out D W0 s.heap.size) args s mc ms (va_A W0 s.heap.size)) ws pc lv st X := by
  intro H locs ls q ce hG hl hce hcv hcl
  obtain ⟨hP, hD, hS⟩ := hG
  subst hw
  exact vx_out (fun x hx => (hex x hx).elim) hlk hce hcv hcl (fun t ht _ => ⟨ho, by rw [ht]; exact hP, hD, hS.F ht⟩) hS.2.2 hc hs
theorem k_xcatch {own0 : String} {X name : String} (E : kE p s m args c own0 cc nL D tys (gW D A s.heap)) {hh : List (Nat × Nat × Nat × Nat)} (htab : c.exceptionTable.toList = tableOf hh) (pre : List ExceptionTableEntry) (x : ExceptionTableEntry) (suf : List ExceptionTableEntry) (hsplit : tableOf hh = pre ++ x :: suf) (hpass : ∀ z ∈ pre, covers z pc = false ∨ (z.catchType ≠ 0 ∧ ∃ nm : String, Cond.classLink own0 z.catchType nm ∈ lw_all ∧ (X, nm) ∈ kNc)) (hx : covers x pc = true) (h0 : x.catchType ≠ 0) (hlink : Cond.classLink own0 x.catchType name ∈ lw_all) (hcast : (X, name) ∈ kCa) (K : ∀ q : Nat, kJ p l e R s m args below meth c (gW D A s.heap) nL cells slots Q ws x.handlerPc lv [.ref q]) : kX p l e R s m args below meth c (gW D A s.heap) nL cells slots Q ws pc lv st X := by
  intro H locs ls q ce hG hl hce hcv hcl
  refine vx_catch E.2.2.2.1 pre x suf (htab.trans hsplit) (fun z hz => ?_) hx h0 (E.2.2.2.2.1 _ hlink) (va_Nw.use rfl (E.2.2.2.2.2.1.2.2.2.1 _ hcast)) hce hcv hcl (K q H locs ls hG hl)
  rcases hpass z hz with h | ⟨h1, nm, h2, h3⟩
  · exact Or.inl h
  · exact Or.inr ⟨h1, nm, E.2.2.2.2.1 _ h2, E.2.2.2.2.2.1.2.2.2.2.2.2.1 _ h3⟩
def kBadW : List Cond := (kCa.map fun q => Cond.castable q.1 q.2) ++ kDe.map Cond.declares
theorem kBad {D : va_G} {tys : List (ClassId × FieldType)} {U : State} {a : Array Value} (h : kK D tys U) : ∀ w ∈ kBadW, w.before a U = true := by
  intro w hw
  unfold kBadW at hw
  rcases List.mem_append.mp hw with h1 | h1
  · obtain ⟨q, hq, rfl⟩ := List.mem_map.mp h1
    exact va_Nw.use rfl (h.2.2.2.1 q hq)
  · obtain ⟨q, hq, rfl⟩ := List.mem_map.mp h1
    exact va_Nw.use rfl (h.2.2.2.2.1 q hq)
/-- throw new X(text) out of a method without a table -/
theorem k_throw {W0 : va_W} {out : (Option Value × va_W) ⊕ String} {mc ms : Nat} {cls text : String} {names : List String} {ik is ic : Nat} (E : kE p s m args c own cc nL D tys (gW D (va_A W0 s.heap.size) s.heap)) (hlt : l.stackTraces = false) (hlk : meth.locks = false) (hex : ∀ x ∈ c.exceptionTable.toList, False) (hZ : kZ (va_A W0 s.heap.size) s s.heap) (hown : own = RX2) (ho : out = .inr cls) (hw : ws = W0) (hcls : Bundle.fit cls = true) (hnames : ∀ n ∈ names, Bundle.fit n = true) (hk : Cond.classLink own ik cls ∈ lw_all) (hini : Cond.initialized cls ∈ lw_all) (hstr : (is, text) ∈ kSt) (hgoodw : ∀ w ∈ (vx_atS own ic cls names).filter goodWord, w ∈ lw_all) (hbad : ∀ w ∈ (vx_atS own ic cls names).filter (fun w => !goodWord w), w ∈ kBadW) (hot : ∀ w ∈ Cond.classLink own ik cls :: Cond.initialized cls :: vx_atS own ic cls names, vx_ot w = true) (d0 : decode cc pc = .ok (.new ik, 3)) (d3 : decode cc (pc + 3) = .ok (.dup, 1)) (d4 : decode cc (pc + 4) = .ok (.ldc is, 2)) (d6 : decode cc (pc + 6) = .ok (.invokespecial ic, 3)) (d9 : decode cc (pc + 9) = .ok (.athrow, 1)) (hRf : names.length + 3 < R.frames) (hRl : (st.map fun v => v.category).sum + (13 * (names.length + 1) + 43) ≤ R.locals) (hRc : cells + 1 ≤ R.cells) (hRs : slots + 6 ≤ R.slots) (hc : cells + 1 ≤ mc) (hs : slots + 6 ≤ ms) : kJ p l e R s m args below meth c (gW D (va_A W0 s.heap.size) s.heap) nL cells slots (vx_MQ below (kXq out D W0 s.heap.size) (kXc out D W0 s.heap.size) args s mc ms (va_A W0 s.heap.size)) ws pc lv st := by
  intro H locs ls hG hl
  obtain ⟨hP, hD, hS⟩ := hG
  subst hw
  subst hown
  obtain ⟨sa, hsa⟩ := E.2.2.2.2.2.1.2.2.2.2.2.1 _ hstr
  refine vx_throwS (names := names) E.1 E.2.1 hlt E.2.2.2.1 hcls hnames (E.2.2.2.2.1 _ hk) (E.2.2.2.2.1 _ hini) hsa (vx_hat (fun w hw => E.2.2.2.2.1 _ (hgoodw w hw)) hbad (kBad E.2.2.2.2.2.1)) hot hZ.1 hZ.2 hS (hl.1.trans E.2.2.1.symm) d0 d3 d4 d6 d9 (fun x hx => (hex x hx).elim) hRf hRl hRc hRs hlk (fun t _ hle hkp => ⟨ho, hP.kept (fun k q hq => hkp q.1 (hP k q hq).lt), hD, ?_⟩) hS.2.2 hc hs
  exact ⟨Nat.le_trans hS.1 hle, fun q h1 h2 => by rw [hkp q (Nat.lt_of_lt_of_le h1 hS.1)]; exact hS.2.1 q h1 h2⟩

end KW
end
section
theorem dX0_init_0 : decode cX0_init 0 = .ok (.aload_n 0, 1) := by decide +kernel
theorem dX0_init_1 : decode cX0_init 1 = .ok (.invokespecial 3, 3) := by decide +kernel
theorem dX0_init_4 : decode cX0_init 4 = .ok (.aload_n 0, 1) := by decide +kernel
theorem dX0_init_5 : decode cX0_init 5 = .ok (.iconst 0, 1) := by decide +kernel
theorem dX0_init_6 : decode cX0_init 6 = .ok (.putfield 9, 3) := by decide +kernel
theorem dX0_init_9 : decode cX0_init 9 = .ok (.aload_n 0, 1) := by decide +kernel
theorem dX0_init_10 : decode cX0_init 10 = .ok (.bipush 6, 2) := by decide +kernel
theorem dX0_init_12 : decode cX0_init 12 = .ok (.newarray .int, 2) := by decide +kernel
theorem dX0_init_14 : decode cX0_init 14 = .ok (.putfield 15, 3) := by decide +kernel
theorem dX0_init_17 : decode cX0_init 17 = .ok (.aload_n 0, 1) := by decide +kernel
theorem dX0_init_18 : decode cX0_init 18 = .ok (.bipush 6, 2) := by decide +kernel
theorem dX0_init_20 : decode cX0_init 20 = .ok (.newarray .int, 2) := by decide +kernel
theorem dX0_init_22 : decode cX0_init 22 = .ok (.putfield 19, 3) := by decide +kernel
theorem dX0_init_25 : decode cX0_init 25 = .ok (.aload_n 0, 1) := by decide +kernel
theorem dX0_init_26 : decode cX0_init 26 = .ok (.bipush 6, 2) := by decide +kernel
theorem dX0_init_28 : decode cX0_init 28 = .ok (.newarray .int, 2) := by decide +kernel
theorem dX0_init_30 : decode cX0_init 30 = .ok (.putfield 22, 3) := by decide +kernel
theorem dX0_init_33 : decode cX0_init 33 = .ok (.aload_n 0, 1) := by decide +kernel
theorem dX0_init_34 : decode cX0_init 34 = .ok (.bipush 6, 2) := by decide +kernel
theorem dX0_init_36 : decode cX0_init 36 = .ok (.iconst 5, 1) := by decide +kernel
theorem dX0_init_37 : decode cX0_init 37 = .ok (.multianewarray 25 2, 4) := by decide +kernel
theorem dX0_init_41 : decode cX0_init 41 = .ok (.putfield 27, 3) := by decide +kernel
theorem dX0_init_44 : decode cX0_init 44 = .ok (.return_, 1) := by decide +kernel
theorem dX0_add_0 : decode cX0_add 0 = .ok (.aload_n 0, 1) := by decide +kernel
theorem dX0_add_1 : decode cX0_add 1 = .ok (.getfield 15, 3) := by decide +kernel
theorem dX0_add_4 : decode cX0_add 4 = .ok (.aload_n 0, 1) := by decide +kernel
theorem dX0_add_5 : decode cX0_add 5 = .ok (.getfield 9, 3) := by decide +kernel
theorem dX0_add_8 : decode cX0_add 8 = .ok (.iload_n 1, 1) := by decide +kernel
theorem dX0_add_9 : decode cX0_add 9 = .ok (.iastore, 1) := by decide +kernel
theorem dX0_add_10 : decode cX0_add 10 = .ok (.aload_n 0, 1) := by decide +kernel
theorem dX0_add_11 : decode cX0_add 11 = .ok (.dup, 1) := by decide +kernel
theorem dX0_add_12 : decode cX0_add 12 = .ok (.getfield 9, 3) := by decide +kernel
theorem dX0_add_15 : decode cX0_add 15 = .ok (.dup_x1, 1) := by decide +kernel
theorem dX0_add_16 : decode cX0_add 16 = .ok (.iconst 1, 1) := by decide +kernel
theorem dX0_add_17 : decode cX0_add 17 = .ok (.iadd, 1) := by decide +kernel
theorem dX0_add_18 : decode cX0_add 18 = .ok (.putfield 9, 3) := by decide +kernel
theorem dX0_add_21 : decode cX0_add 21 = .ok (.ireturn, 1) := by decide +kernel
theorem dX0_addCowTo_0 : decode cX0_addCowTo 0 = .ok (.aload_n 0, 1) := by decide +kernel
theorem dX0_addCowTo_1 : decode cX0_addCowTo 1 = .ok (.getfield 27, 3) := by decide +kernel
theorem dX0_addCowTo_4 : decode cX0_addCowTo 4 = .ok (.iload_n 1, 1) := by decide +kernel
theorem dX0_addCowTo_5 : decode cX0_addCowTo 5 = .ok (.aaload, 1) := by decide +kernel
theorem dX0_addCowTo_6 : decode cX0_addCowTo 6 = .ok (.aload_n 0, 1) := by decide +kernel
theorem dX0_addCowTo_7 : decode cX0_addCowTo 7 = .ok (.getfield 22, 3) := by decide +kernel
theorem dX0_addCowTo_10 : decode cX0_addCowTo 10 = .ok (.iload_n 1, 1) := by decide +kernel
theorem dX0_addCowTo_11 : decode cX0_addCowTo 11 = .ok (.iaload, 1) := by decide +kernel
theorem dX0_addCowTo_12 : decode cX0_addCowTo 12 = .ok (.iload_n 2, 1) := by decide +kernel
theorem dX0_addCowTo_13 : decode cX0_addCowTo 13 = .ok (.iastore, 1) := by decide +kernel
theorem dX0_addCowTo_14 : decode cX0_addCowTo 14 = .ok (.aload_n 0, 1) := by decide +kernel
theorem dX0_addCowTo_15 : decode cX0_addCowTo 15 = .ok (.getfield 22, 3) := by decide +kernel
theorem dX0_addCowTo_18 : decode cX0_addCowTo 18 = .ok (.iload_n 1, 1) := by decide +kernel
theorem dX0_addCowTo_19 : decode cX0_addCowTo 19 = .ok (.dup2, 1) := by decide +kernel
theorem dX0_addCowTo_20 : decode cX0_addCowTo 20 = .ok (.iaload, 1) := by decide +kernel
theorem dX0_addCowTo_21 : decode cX0_addCowTo 21 = .ok (.iconst 1, 1) := by decide +kernel
theorem dX0_addCowTo_22 : decode cX0_addCowTo 22 = .ok (.iadd, 1) := by decide +kernel
theorem dX0_addCowTo_23 : decode cX0_addCowTo 23 = .ok (.iastore, 1) := by decide +kernel
theorem dX0_addCowTo_24 : decode cX0_addCowTo 24 = .ok (.aload_n 0, 1) := by decide +kernel
theorem dX0_addCowTo_25 : decode cX0_addCowTo 25 = .ok (.getfield 22, 3) := by decide +kernel
theorem dX0_addCowTo_28 : decode cX0_addCowTo 28 = .ok (.iload_n 1, 1) := by decide +kernel
theorem dX0_addCowTo_29 : decode cX0_addCowTo 29 = .ok (.iaload, 1) := by decide +kernel
theorem dX0_addCowTo_30 : decode cX0_addCowTo 30 = .ok (.ireturn, 1) := by decide +kernel
theorem dX0_milkOn_0 : decode cX0_milkOn 0 = .ok (.iconst 0, 1) := by decide +kernel
theorem dX0_milkOn_1 : decode cX0_milkOn 1 = .ok (.istore_n 3, 1) := by decide +kernel
theorem dX0_milkOn_2 : decode cX0_milkOn 2 = .ok (.iconst 0, 1) := by decide +kernel
theorem dX0_milkOn_3 : decode cX0_milkOn 3 = .ok (.istore 4, 2) := by decide +kernel
theorem dX0_milkOn_5 : decode cX0_milkOn 5 = .ok (.iload 4, 2) := by decide +kernel
theorem dX0_milkOn_7 : decode cX0_milkOn 7 = .ok (.aload_n 0, 1) := by decide +kernel
theorem dX0_milkOn_8 : decode cX0_milkOn 8 = .ok (.getfield 22, 3) := by decide +kernel
theorem dX0_milkOn_11 : decode cX0_milkOn 11 = .ok (.iload_n 1, 1) := by decide +kernel
theorem dX0_milkOn_12 : decode cX0_milkOn 12 = .ok (.iaload, 1) := by decide +kernel
theorem dX0_milkOn_13 : decode cX0_milkOn 13 = .ok (.if_icmp .ge 25, 3) := by decide +kernel
theorem dX0_milkOn_16 : decode cX0_milkOn 16 = .ok (.iload_n 3, 1) := by decide +kernel
theorem dX0_milkOn_17 : decode cX0_milkOn 17 = .ok (.aload_n 0, 1) := by decide +kernel
theorem dX0_milkOn_18 : decode cX0_milkOn 18 = .ok (.getfield 27, 3) := by decide +kernel
theorem dX0_milkOn_21 : decode cX0_milkOn 21 = .ok (.iload_n 1, 1) := by decide +kernel
theorem dX0_milkOn_22 : decode cX0_milkOn 22 = .ok (.aaload, 1) := by decide +kernel
theorem dX0_milkOn_23 : decode cX0_milkOn 23 = .ok (.iload 4, 2) := by decide +kernel
theorem dX0_milkOn_25 : decode cX0_milkOn 25 = .ok (.iaload, 1) := by decide +kernel
theorem dX0_milkOn_26 : decode cX0_milkOn 26 = .ok (.iload_n 2, 1) := by decide +kernel
theorem dX0_milkOn_27 : decode cX0_milkOn 27 = .ok (.invokestatic 30, 3) := by decide +kernel
theorem dX0_milkOn_30 : decode cX0_milkOn 30 = .ok (.iadd, 1) := by decide +kernel
theorem dX0_milkOn_31 : decode cX0_milkOn 31 = .ok (.istore_n 3, 1) := by decide +kernel
theorem dX0_milkOn_32 : decode cX0_milkOn 32 = .ok (.iinc 4 1, 3) := by decide +kernel
theorem dX0_milkOn_35 : decode cX0_milkOn 35 = .ok (.goto (-30), 3) := by decide +kernel
theorem dX0_milkOn_38 : decode cX0_milkOn 38 = .ok (.iload_n 3, 1) := by decide +kernel
theorem dX0_milkOn_39 : decode cX0_milkOn 39 = .ok (.ireturn, 1) := by decide +kernel
theorem dX0_milkOfCow_0 : decode cX0_milkOfCow 0 = .ok (.iconst 5, 1) := by decide +kernel
theorem dX0_milkOfCow_1 : decode cX0_milkOfCow 1 = .ok (.iload_n 0, 1) := by decide +kernel
theorem dX0_milkOfCow_2 : decode cX0_milkOfCow 2 = .ok (.iconst 5, 1) := by decide +kernel
theorem dX0_milkOfCow_3 : decode cX0_milkOfCow 3 = .ok (.iload_n 1, 1) := by decide +kernel
theorem dX0_milkOfCow_4 : decode cX0_milkOfCow 4 = .ok (.bipush 10, 2) := by decide +kernel
theorem dX0_milkOfCow_6 : decode cX0_milkOfCow 6 = .ok (.irem, 1) := by decide +kernel
theorem dX0_milkOfCow_7 : decode cX0_milkOfCow 7 = .ok (.isub, 1) := by decide +kernel
theorem dX0_milkOfCow_8 : decode cX0_milkOfCow 8 = .ok (.invokestatic 34, 3) := by decide +kernel
theorem dX0_milkOfCow_11 : decode cX0_milkOfCow 11 = .ok (.isub, 1) := by decide +kernel
theorem dX0_milkOfCow_12 : decode cX0_milkOfCow 12 = .ok (.invokestatic 40, 3) := by decide +kernel
theorem dX0_milkOfCow_15 : decode cX0_milkOfCow 15 = .ok (.ireturn, 1) := by decide +kernel
theorem dX0_milkAll_0 : decode cX0_milkAll 0 = .ok (.iconst 0, 1) := by decide +kernel
theorem dX0_milkAll_1 : decode cX0_milkAll 1 = .ok (.istore_n 2, 1) := by decide +kernel
theorem dX0_milkAll_2 : decode cX0_milkAll 2 = .ok (.iconst 0, 1) := by decide +kernel
theorem dX0_milkAll_3 : decode cX0_milkAll 3 = .ok (.istore_n 3, 1) := by decide +kernel
theorem dX0_milkAll_4 : decode cX0_milkAll 4 = .ok (.iload_n 3, 1) := by decide +kernel
theorem dX0_milkAll_5 : decode cX0_milkAll 5 = .ok (.aload_n 0, 1) := by decide +kernel
theorem dX0_milkAll_6 : decode cX0_milkAll 6 = .ok (.getfield 9, 3) := by decide +kernel
theorem dX0_milkAll_9 : decode cX0_milkAll 9 = .ok (.if_icmp .ge 56, 3) := by decide +kernel
theorem dX0_milkAll_12 : decode cX0_milkAll 12 = .ok (.aload_n 0, 1) := by decide +kernel
theorem dX0_milkAll_13 : decode cX0_milkAll 13 = .ok (.iload_n 3, 1) := by decide +kernel
theorem dX0_milkAll_14 : decode cX0_milkAll 14 = .ok (.iload_n 1, 1) := by decide +kernel
theorem dX0_milkAll_15 : decode cX0_milkAll 15 = .ok (.invokevirtual 43, 3) := by decide +kernel
theorem dX0_milkAll_18 : decode cX0_milkAll 18 = .ok (.istore 4, 2) := by decide +kernel
theorem dX0_milkAll_20 : decode cX0_milkAll 20 = .ok (.iload 4, 2) := by decide +kernel
theorem dX0_milkAll_22 : decode cX0_milkAll 22 = .ok (.aload_n 0, 1) := by decide +kernel
theorem dX0_milkAll_23 : decode cX0_milkAll 23 = .ok (.getfield 15, 3) := by decide +kernel
theorem dX0_milkAll_26 : decode cX0_milkAll 26 = .ok (.iload_n 3, 1) := by decide +kernel
theorem dX0_milkAll_27 : decode cX0_milkAll 27 = .ok (.iaload, 1) := by decide +kernel
theorem dX0_milkAll_28 : decode cX0_milkAll 28 = .ok (.aload_n 0, 1) := by decide +kernel
theorem dX0_milkAll_29 : decode cX0_milkAll 29 = .ok (.getfield 19, 3) := by decide +kernel
theorem dX0_milkAll_32 : decode cX0_milkAll 32 = .ok (.iload_n 3, 1) := by decide +kernel
theorem dX0_milkAll_33 : decode cX0_milkAll 33 = .ok (.iaload, 1) := by decide +kernel
theorem dX0_milkAll_34 : decode cX0_milkAll 34 = .ok (.isub, 1) := by decide +kernel
theorem dX0_milkAll_35 : decode cX0_milkAll 35 = .ok (.invokestatic 46, 3) := by decide +kernel
theorem dX0_milkAll_38 : decode cX0_milkAll 38 = .ok (.istore 5, 2) := by decide +kernel
theorem dX0_milkAll_40 : decode cX0_milkAll 40 = .ok (.aload_n 0, 1) := by decide +kernel
theorem dX0_milkAll_41 : decode cX0_milkAll 41 = .ok (.getfield 19, 3) := by decide +kernel
theorem dX0_milkAll_44 : decode cX0_milkAll 44 = .ok (.iload_n 3, 1) := by decide +kernel
theorem dX0_milkAll_45 : decode cX0_milkAll 45 = .ok (.dup2, 1) := by decide +kernel
theorem dX0_milkAll_46 : decode cX0_milkAll 46 = .ok (.iaload, 1) := by decide +kernel
theorem dX0_milkAll_47 : decode cX0_milkAll 47 = .ok (.iload 5, 2) := by decide +kernel
theorem dX0_milkAll_49 : decode cX0_milkAll 49 = .ok (.iadd, 1) := by decide +kernel
theorem dX0_milkAll_50 : decode cX0_milkAll 50 = .ok (.iastore, 1) := by decide +kernel
theorem dX0_milkAll_51 : decode cX0_milkAll 51 = .ok (.iload_n 2, 1) := by decide +kernel
theorem dX0_milkAll_52 : decode cX0_milkAll 52 = .ok (.iload 4, 2) := by decide +kernel
theorem dX0_milkAll_54 : decode cX0_milkAll 54 = .ok (.iload 5, 2) := by decide +kernel
theorem dX0_milkAll_56 : decode cX0_milkAll 56 = .ok (.isub, 1) := by decide +kernel
theorem dX0_milkAll_57 : decode cX0_milkAll 57 = .ok (.iadd, 1) := by decide +kernel
theorem dX0_milkAll_58 : decode cX0_milkAll 58 = .ok (.istore_n 2, 1) := by decide +kernel
theorem dX0_milkAll_59 : decode cX0_milkAll 59 = .ok (.iinc 3 1, 3) := by decide +kernel
theorem dX0_milkAll_62 : decode cX0_milkAll 62 = .ok (.goto (-58), 3) := by decide +kernel
theorem dX0_milkAll_65 : decode cX0_milkAll 65 = .ok (.iload_n 2, 1) := by decide +kernel
theorem dX0_milkAll_66 : decode cX0_milkAll 66 = .ok (.ireturn, 1) := by decide +kernel
theorem dX0_draw_0 : decode cX0_draw 0 = .ok (.aload_n 0, 1) := by decide +kernel
theorem dX0_draw_1 : decode cX0_draw 1 = .ok (.getfield 19, 3) := by decide +kernel
theorem dX0_draw_4 : decode cX0_draw 4 = .ok (.iload_n 1, 1) := by decide +kernel
theorem dX0_draw_5 : decode cX0_draw 5 = .ok (.iaload, 1) := by decide +kernel
theorem dX0_draw_6 : decode cX0_draw 6 = .ok (.iload_n 2, 1) := by decide +kernel
theorem dX0_draw_7 : decode cX0_draw 7 = .ok (.invokestatic 46, 3) := by decide +kernel
theorem dX0_draw_10 : decode cX0_draw 10 = .ok (.istore_n 3, 1) := by decide +kernel
theorem dX0_draw_11 : decode cX0_draw 11 = .ok (.aload_n 0, 1) := by decide +kernel
theorem dX0_draw_12 : decode cX0_draw 12 = .ok (.getfield 19, 3) := by decide +kernel
theorem dX0_draw_15 : decode cX0_draw 15 = .ok (.iload_n 1, 1) := by decide +kernel
theorem dX0_draw_16 : decode cX0_draw 16 = .ok (.dup2, 1) := by decide +kernel
theorem dX0_draw_17 : decode cX0_draw 17 = .ok (.iaload, 1) := by decide +kernel
theorem dX0_draw_18 : decode cX0_draw 18 = .ok (.iload_n 3, 1) := by decide +kernel
theorem dX0_draw_19 : decode cX0_draw 19 = .ok (.isub, 1) := by decide +kernel
theorem dX0_draw_20 : decode cX0_draw 20 = .ok (.iastore, 1) := by decide +kernel
theorem dX0_draw_21 : decode cX0_draw 21 = .ok (.iload_n 3, 1) := by decide +kernel
theorem dX0_draw_22 : decode cX0_draw 22 = .ok (.ireturn, 1) := by decide +kernel
theorem dX1_init_0 : decode cX1_init 0 = .ok (.aload_n 0, 1) := by decide +kernel
theorem dX1_init_1 : decode cX1_init 1 = .ok (.invokespecial 3, 3) := by decide +kernel
theorem dX1_init_4 : decode cX1_init 4 = .ok (.aload_n 0, 1) := by decide +kernel
theorem dX1_init_5 : decode cX1_init 5 = .ok (.iconst 0, 1) := by decide +kernel
theorem dX1_init_6 : decode cX1_init 6 = .ok (.putfield 9, 3) := by decide +kernel
theorem dX1_init_9 : decode cX1_init 9 = .ok (.aload_n 0, 1) := by decide +kernel
theorem dX1_init_10 : decode cX1_init 10 = .ok (.bipush 100, 2) := by decide +kernel
theorem dX1_init_12 : decode cX1_init 12 = .ok (.newarray .int, 2) := by decide +kernel
theorem dX1_init_14 : decode cX1_init 14 = .ok (.putfield 15, 3) := by decide +kernel
theorem dX1_init_17 : decode cX1_init 17 = .ok (.aload_n 0, 1) := by decide +kernel
theorem dX1_init_18 : decode cX1_init 18 = .ok (.bipush 100, 2) := by decide +kernel
theorem dX1_init_20 : decode cX1_init 20 = .ok (.newarray .int, 2) := by decide +kernel
theorem dX1_init_22 : decode cX1_init 22 = .ok (.putfield 19, 3) := by decide +kernel
theorem dX1_init_25 : decode cX1_init 25 = .ok (.aload_n 0, 1) := by decide +kernel
theorem dX1_init_26 : decode cX1_init 26 = .ok (.bipush 100, 2) := by decide +kernel
theorem dX1_init_28 : decode cX1_init 28 = .ok (.newarray .char, 2) := by decide +kernel
theorem dX1_init_30 : decode cX1_init 30 = .ok (.putfield 22, 3) := by decide +kernel
theorem dX1_init_33 : decode cX1_init 33 = .ok (.aload_n 0, 1) := by decide +kernel
theorem dX1_init_34 : decode cX1_init 34 = .ok (.bipush 100, 2) := by decide +kernel
theorem dX1_init_36 : decode cX1_init 36 = .ok (.newarray .char, 2) := by decide +kernel
theorem dX1_init_38 : decode cX1_init 38 = .ok (.putfield 26, 3) := by decide +kernel
theorem dX1_init_41 : decode cX1_init 41 = .ok (.aload_n 0, 1) := by decide +kernel
theorem dX1_init_42 : decode cX1_init 42 = .ok (.bipush 100, 2) := by decide +kernel
theorem dX1_init_44 : decode cX1_init 44 = .ok (.newarray .int, 2) := by decide +kernel
theorem dX1_init_46 : decode cX1_init 46 = .ok (.putfield 29, 3) := by decide +kernel
theorem dX1_init_49 : decode cX1_init 49 = .ok (.aload_n 0, 1) := by decide +kernel
theorem dX1_init_50 : decode cX1_init 50 = .ok (.bipush 100, 2) := by decide +kernel
theorem dX1_init_52 : decode cX1_init 52 = .ok (.newarray .int, 2) := by decide +kernel
theorem dX1_init_54 : decode cX1_init 54 = .ok (.putfield 32, 3) := by decide +kernel
theorem dX1_init_57 : decode cX1_init 57 = .ok (.aload_n 0, 1) := by decide +kernel
theorem dX1_init_58 : decode cX1_init 58 = .ok (.bipush 100, 2) := by decide +kernel
theorem dX1_init_60 : decode cX1_init 60 = .ok (.newarray .int, 2) := by decide +kernel
theorem dX1_init_62 : decode cX1_init 62 = .ok (.putfield 35, 3) := by decide +kernel
theorem dX1_init_65 : decode cX1_init 65 = .ok (.return_, 1) := by decide +kernel
theorem dX1_add_0 : decode cX1_add 0 = .ok (.aload_n 0, 1) := by decide +kernel
theorem dX1_add_1 : decode cX1_add 1 = .ok (.getfield 15, 3) := by decide +kernel
theorem dX1_add_4 : decode cX1_add 4 = .ok (.aload_n 0, 1) := by decide +kernel
theorem dX1_add_5 : decode cX1_add 5 = .ok (.getfield 9, 3) := by decide +kernel
theorem dX1_add_8 : decode cX1_add 8 = .ok (.iload_n 1, 1) := by decide +kernel
theorem dX1_add_9 : decode cX1_add 9 = .ok (.iastore, 1) := by decide +kernel
theorem dX1_add_10 : decode cX1_add 10 = .ok (.aload_n 0, 1) := by decide +kernel
theorem dX1_add_11 : decode cX1_add 11 = .ok (.getfield 19, 3) := by decide +kernel
theorem dX1_add_14 : decode cX1_add 14 = .ok (.aload_n 0, 1) := by decide +kernel
theorem dX1_add_15 : decode cX1_add 15 = .ok (.getfield 9, 3) := by decide +kernel
theorem dX1_add_18 : decode cX1_add 18 = .ok (.iload_n 2, 1) := by decide +kernel
theorem dX1_add_19 : decode cX1_add 19 = .ok (.iastore, 1) := by decide +kernel
theorem dX1_add_20 : decode cX1_add 20 = .ok (.aload_n 0, 1) := by decide +kernel
theorem dX1_add_21 : decode cX1_add 21 = .ok (.getfield 22, 3) := by decide +kernel
theorem dX1_add_24 : decode cX1_add 24 = .ok (.aload_n 0, 1) := by decide +kernel
theorem dX1_add_25 : decode cX1_add 25 = .ok (.getfield 9, 3) := by decide +kernel
theorem dX1_add_28 : decode cX1_add 28 = .ok (.bipush 45, 2) := by decide +kernel
theorem dX1_add_30 : decode cX1_add 30 = .ok (.castore, 1) := by decide +kernel
theorem dX1_add_31 : decode cX1_add 31 = .ok (.aload_n 0, 1) := by decide +kernel
theorem dX1_add_32 : decode cX1_add 32 = .ok (.getfield 26, 3) := by decide +kernel
theorem dX1_add_35 : decode cX1_add 35 = .ok (.aload_n 0, 1) := by decide +kernel
theorem dX1_add_36 : decode cX1_add 36 = .ok (.getfield 9, 3) := by decide +kernel
theorem dX1_add_39 : decode cX1_add 39 = .ok (.bipush 116, 2) := by decide +kernel
theorem dX1_add_41 : decode cX1_add 41 = .ok (.castore, 1) := by decide +kernel
theorem dX1_add_42 : decode cX1_add 42 = .ok (.aload_n 0, 1) := by decide +kernel
theorem dX1_add_43 : decode cX1_add 43 = .ok (.getfield 29, 3) := by decide +kernel
theorem dX1_add_46 : decode cX1_add 46 = .ok (.aload_n 0, 1) := by decide +kernel
theorem dX1_add_47 : decode cX1_add 47 = .ok (.getfield 9, 3) := by decide +kernel
theorem dX1_add_50 : decode cX1_add 50 = .ok (.iconst 0, 1) := by decide +kernel
theorem dX1_add_51 : decode cX1_add 51 = .ok (.iastore, 1) := by decide +kernel
theorem dX1_add_52 : decode cX1_add 52 = .ok (.aload_n 0, 1) := by decide +kernel
theorem dX1_add_53 : decode cX1_add 53 = .ok (.dup, 1) := by decide +kernel
theorem dX1_add_54 : decode cX1_add 54 = .ok (.getfield 9, 3) := by decide +kernel
theorem dX1_add_57 : decode cX1_add 57 = .ok (.iconst 1, 1) := by decide +kernel
theorem dX1_add_58 : decode cX1_add 58 = .ok (.iadd, 1) := by decide +kernel
theorem dX1_add_59 : decode cX1_add 59 = .ok (.putfield 9, 3) := by decide +kernel
theorem dX1_add_62 : decode cX1_add 62 = .ok (.return_, 1) := by decide +kernel
theorem dX1_isIn_0 : decode cX1_isIn 0 = .ok (.aload_n 0, 1) := by decide +kernel
theorem dX1_isIn_1 : decode cX1_isIn 1 = .ok (.getfield 26, 3) := by decide +kernel
theorem dX1_isIn_4 : decode cX1_isIn 4 = .ok (.iload_n 1, 1) := by decide +kernel
theorem dX1_isIn_5 : decode cX1_isIn 5 = .ok (.caload, 1) := by decide +kernel
theorem dX1_isIn_6 : decode cX1_isIn 6 = .ok (.iload_n 2, 1) := by decide +kernel
theorem dX1_isIn_7 : decode cX1_isIn 7 = .ok (.if_icmp .ne 17, 3) := by decide +kernel
theorem dX1_isIn_10 : decode cX1_isIn 10 = .ok (.aload_n 0, 1) := by decide +kernel
theorem dX1_isIn_11 : decode cX1_isIn 11 = .ok (.getfield 29, 3) := by decide +kernel
theorem dX1_isIn_14 : decode cX1_isIn 14 = .ok (.iload_n 1, 1) := by decide +kernel
theorem dX1_isIn_15 : decode cX1_isIn 15 = .ok (.iaload, 1) := by decide +kernel
theorem dX1_isIn_16 : decode cX1_isIn 16 = .ok (.iload_n 3, 1) := by decide +kernel
theorem dX1_isIn_17 : decode cX1_isIn 17 = .ok (.if_icmp .ne 7, 3) := by decide +kernel
theorem dX1_isIn_20 : decode cX1_isIn 20 = .ok (.iconst 1, 1) := by decide +kernel
theorem dX1_isIn_21 : decode cX1_isIn 21 = .ok (.goto 4, 3) := by decide +kernel
theorem dX1_isIn_24 : decode cX1_isIn 24 = .ok (.iconst 0, 1) := by decide +kernel
theorem dX1_isIn_25 : decode cX1_isIn 25 = .ok (.ireturn, 1) := by decide +kernel
theorem dX1_move_0 : decode cX1_move 0 = .ok (.iconst 0, 1) := by decide +kernel
theorem dX1_move_1 : decode cX1_move 1 = .ok (.istore 5, 2) := by decide +kernel
theorem dX1_move_3 : decode cX1_move 3 = .ok (.iload 5, 2) := by decide +kernel
theorem dX1_move_5 : decode cX1_move 5 = .ok (.aload_n 0, 1) := by decide +kernel
theorem dX1_move_6 : decode cX1_move 6 = .ok (.getfield 9, 3) := by decide +kernel
theorem dX1_move_9 : decode cX1_move 9 = .ok (.if_icmp .ge 37, 3) := by decide +kernel
theorem dX1_move_12 : decode cX1_move 12 = .ok (.aload_n 0, 1) := by decide +kernel
theorem dX1_move_13 : decode cX1_move 13 = .ok (.iload 5, 2) := by decide +kernel
theorem dX1_move_15 : decode cX1_move 15 = .ok (.iload_n 1, 1) := by decide +kernel
theorem dX1_move_16 : decode cX1_move 16 = .ok (.iload_n 2, 1) := by decide +kernel
theorem dX1_move_17 : decode cX1_move 17 = .ok (.invokevirtual 38, 3) := by decide +kernel
theorem dX1_move_20 : decode cX1_move 20 = .ok (.ifCond .eq 20, 3) := by decide +kernel
theorem dX1_move_23 : decode cX1_move 23 = .ok (.aload_n 0, 1) := by decide +kernel
theorem dX1_move_24 : decode cX1_move 24 = .ok (.getfield 26, 3) := by decide +kernel
theorem dX1_move_27 : decode cX1_move 27 = .ok (.iload 5, 2) := by decide +kernel
theorem dX1_move_29 : decode cX1_move 29 = .ok (.iload_n 3, 1) := by decide +kernel
theorem dX1_move_30 : decode cX1_move 30 = .ok (.castore, 1) := by decide +kernel
theorem dX1_move_31 : decode cX1_move 31 = .ok (.aload_n 0, 1) := by decide +kernel
theorem dX1_move_32 : decode cX1_move 32 = .ok (.getfield 29, 3) := by decide +kernel
theorem dX1_move_35 : decode cX1_move 35 = .ok (.iload 5, 2) := by decide +kernel
theorem dX1_move_37 : decode cX1_move 37 = .ok (.iload 4, 2) := by decide +kernel
theorem dX1_move_39 : decode cX1_move 39 = .ok (.iastore, 1) := by decide +kernel
theorem dX1_move_40 : decode cX1_move 40 = .ok (.iinc 5 1, 3) := by decide +kernel
theorem dX1_move_43 : decode cX1_move 43 = .ok (.goto (-40), 3) := by decide +kernel
theorem dX1_move_46 : decode cX1_move 46 = .ok (.return_, 1) := by decide +kernel
theorem dX1_countIn_0 : decode cX1_countIn 0 = .ok (.iconst 0, 1) := by decide +kernel
theorem dX1_countIn_1 : decode cX1_countIn 1 = .ok (.istore_n 3, 1) := by decide +kernel
theorem dX1_countIn_2 : decode cX1_countIn 2 = .ok (.iconst 0, 1) := by decide +kernel
theorem dX1_countIn_3 : decode cX1_countIn 3 = .ok (.istore 4, 2) := by decide +kernel
theorem dX1_countIn_5 : decode cX1_countIn 5 = .ok (.iload 4, 2) := by decide +kernel
theorem dX1_countIn_7 : decode cX1_countIn 7 = .ok (.aload_n 0, 1) := by decide +kernel
theorem dX1_countIn_8 : decode cX1_countIn 8 = .ok (.getfield 9, 3) := by decide +kernel
theorem dX1_countIn_11 : decode cX1_countIn 11 = .ok (.if_icmp .ge 23, 3) := by decide +kernel
theorem dX1_countIn_14 : decode cX1_countIn 14 = .ok (.aload_n 0, 1) := by decide +kernel
theorem dX1_countIn_15 : decode cX1_countIn 15 = .ok (.iload 4, 2) := by decide +kernel
theorem dX1_countIn_17 : decode cX1_countIn 17 = .ok (.iload_n 1, 1) := by decide +kernel
theorem dX1_countIn_18 : decode cX1_countIn 18 = .ok (.iload_n 2, 1) := by decide +kernel
theorem dX1_countIn_19 : decode cX1_countIn 19 = .ok (.invokevirtual 38, 3) := by decide +kernel
theorem dX1_countIn_22 : decode cX1_countIn 22 = .ok (.ifCond .eq 6, 3) := by decide +kernel
theorem dX1_countIn_25 : decode cX1_countIn 25 = .ok (.iinc 3 1, 3) := by decide +kernel
theorem dX1_countIn_28 : decode cX1_countIn 28 = .ok (.iinc 4 1, 3) := by decide +kernel
theorem dX1_countIn_31 : decode cX1_countIn 31 = .ok (.goto (-26), 3) := by decide +kernel
theorem dX1_countIn_34 : decode cX1_countIn 34 = .ok (.iload_n 3, 1) := by decide +kernel
theorem dX1_countIn_35 : decode cX1_countIn 35 = .ok (.ireturn, 1) := by decide +kernel
theorem dX1_litresIn_0 : decode cX1_litresIn 0 = .ok (.iconst 0, 1) := by decide +kernel
theorem dX1_litresIn_1 : decode cX1_litresIn 1 = .ok (.istore_n 3, 1) := by decide +kernel
theorem dX1_litresIn_2 : decode cX1_litresIn 2 = .ok (.iconst 0, 1) := by decide +kernel
theorem dX1_litresIn_3 : decode cX1_litresIn 3 = .ok (.istore 4, 2) := by decide +kernel
theorem dX1_litresIn_5 : decode cX1_litresIn 5 = .ok (.iload 4, 2) := by decide +kernel
theorem dX1_litresIn_7 : decode cX1_litresIn 7 = .ok (.aload_n 0, 1) := by decide +kernel
theorem dX1_litresIn_8 : decode cX1_litresIn 8 = .ok (.getfield 9, 3) := by decide +kernel
theorem dX1_litresIn_11 : decode cX1_litresIn 11 = .ok (.if_icmp .ge 30, 3) := by decide +kernel
theorem dX1_litresIn_14 : decode cX1_litresIn 14 = .ok (.aload_n 0, 1) := by decide +kernel
theorem dX1_litresIn_15 : decode cX1_litresIn 15 = .ok (.iload 4, 2) := by decide +kernel
theorem dX1_litresIn_17 : decode cX1_litresIn 17 = .ok (.iload_n 1, 1) := by decide +kernel
theorem dX1_litresIn_18 : decode cX1_litresIn 18 = .ok (.iload_n 2, 1) := by decide +kernel
theorem dX1_litresIn_19 : decode cX1_litresIn 19 = .ok (.invokevirtual 38, 3) := by decide +kernel
theorem dX1_litresIn_22 : decode cX1_litresIn 22 = .ok (.ifCond .eq 13, 3) := by decide +kernel
theorem dX1_litresIn_25 : decode cX1_litresIn 25 = .ok (.iload_n 3, 1) := by decide +kernel
theorem dX1_litresIn_26 : decode cX1_litresIn 26 = .ok (.aload_n 0, 1) := by decide +kernel
theorem dX1_litresIn_27 : decode cX1_litresIn 27 = .ok (.getfield 19, 3) := by decide +kernel
theorem dX1_litresIn_30 : decode cX1_litresIn 30 = .ok (.iload 4, 2) := by decide +kernel
theorem dX1_litresIn_32 : decode cX1_litresIn 32 = .ok (.iaload, 1) := by decide +kernel
theorem dX1_litresIn_33 : decode cX1_litresIn 33 = .ok (.iadd, 1) := by decide +kernel
theorem dX1_litresIn_34 : decode cX1_litresIn 34 = .ok (.istore_n 3, 1) := by decide +kernel
theorem dX1_litresIn_35 : decode cX1_litresIn 35 = .ok (.iinc 4 1, 3) := by decide +kernel
theorem dX1_litresIn_38 : decode cX1_litresIn 38 = .ok (.goto (-33), 3) := by decide +kernel
theorem dX1_litresIn_41 : decode cX1_litresIn 41 = .ok (.iload_n 3, 1) := by decide +kernel
theorem dX1_litresIn_42 : decode cX1_litresIn 42 = .ok (.ireturn, 1) := by decide +kernel
theorem dX1_allLitres_0 : decode cX1_allLitres 0 = .ok (.iconst 0, 1) := by decide +kernel
theorem dX1_allLitres_1 : decode cX1_allLitres 1 = .ok (.istore_n 1, 1) := by decide +kernel
theorem dX1_allLitres_2 : decode cX1_allLitres 2 = .ok (.iconst 0, 1) := by decide +kernel
theorem dX1_allLitres_3 : decode cX1_allLitres 3 = .ok (.istore_n 2, 1) := by decide +kernel
theorem dX1_allLitres_4 : decode cX1_allLitres 4 = .ok (.iload_n 2, 1) := by decide +kernel
theorem dX1_allLitres_5 : decode cX1_allLitres 5 = .ok (.aload_n 0, 1) := by decide +kernel
theorem dX1_allLitres_6 : decode cX1_allLitres 6 = .ok (.getfield 9, 3) := by decide +kernel
theorem dX1_allLitres_9 : decode cX1_allLitres 9 = .ok (.if_icmp .ge 18, 3) := by decide +kernel
theorem dX1_allLitres_12 : decode cX1_allLitres 12 = .ok (.iload_n 1, 1) := by decide +kernel
theorem dX1_allLitres_13 : decode cX1_allLitres 13 = .ok (.aload_n 0, 1) := by decide +kernel
theorem dX1_allLitres_14 : decode cX1_allLitres 14 = .ok (.getfield 19, 3) := by decide +kernel
theorem dX1_allLitres_17 : decode cX1_allLitres 17 = .ok (.iload_n 2, 1) := by decide +kernel
theorem dX1_allLitres_18 : decode cX1_allLitres 18 = .ok (.iaload, 1) := by decide +kernel
theorem dX1_allLitres_19 : decode cX1_allLitres 19 = .ok (.iadd, 1) := by decide +kernel
theorem dX1_allLitres_20 : decode cX1_allLitres 20 = .ok (.istore_n 1, 1) := by decide +kernel
theorem dX1_allLitres_21 : decode cX1_allLitres 21 = .ok (.iinc 2 1, 3) := by decide +kernel
theorem dX1_allLitres_24 : decode cX1_allLitres 24 = .ok (.goto (-20), 3) := by decide +kernel
theorem dX1_allLitres_27 : decode cX1_allLitres 27 = .ok (.iload_n 1, 1) := by decide +kernel
theorem dX1_allLitres_28 : decode cX1_allLitres 28 = .ok (.ireturn, 1) := by decide +kernel
theorem dX1_ungraded_0 : decode cX1_ungraded 0 = .ok (.iconst 0, 1) := by decide +kernel
theorem dX1_ungraded_1 : decode cX1_ungraded 1 = .ok (.istore_n 1, 1) := by decide +kernel
theorem dX1_ungraded_2 : decode cX1_ungraded 2 = .ok (.iconst 0, 1) := by decide +kernel
theorem dX1_ungraded_3 : decode cX1_ungraded 3 = .ok (.istore_n 2, 1) := by decide +kernel
theorem dX1_ungraded_4 : decode cX1_ungraded 4 = .ok (.iload_n 2, 1) := by decide +kernel
theorem dX1_ungraded_5 : decode cX1_ungraded 5 = .ok (.aload_n 0, 1) := by decide +kernel
theorem dX1_ungraded_6 : decode cX1_ungraded 6 = .ok (.getfield 9, 3) := by decide +kernel
theorem dX1_ungraded_9 : decode cX1_ungraded 9 = .ok (.if_icmp .ge 23, 3) := by decide +kernel
theorem dX1_ungraded_12 : decode cX1_ungraded 12 = .ok (.aload_n 0, 1) := by decide +kernel
theorem dX1_ungraded_13 : decode cX1_ungraded 13 = .ok (.getfield 22, 3) := by decide +kernel
theorem dX1_ungraded_16 : decode cX1_ungraded 16 = .ok (.iload_n 2, 1) := by decide +kernel
theorem dX1_ungraded_17 : decode cX1_ungraded 17 = .ok (.caload, 1) := by decide +kernel
theorem dX1_ungraded_18 : decode cX1_ungraded 18 = .ok (.bipush 45, 2) := by decide +kernel
theorem dX1_ungraded_20 : decode cX1_ungraded 20 = .ok (.if_icmp .ne 6, 3) := by decide +kernel
theorem dX1_ungraded_23 : decode cX1_ungraded 23 = .ok (.iinc 1 1, 3) := by decide +kernel
theorem dX1_ungraded_26 : decode cX1_ungraded 26 = .ok (.iinc 2 1, 3) := by decide +kernel
theorem dX1_ungraded_29 : decode cX1_ungraded 29 = .ok (.goto (-25), 3) := by decide +kernel
theorem dX1_ungraded_32 : decode cX1_ungraded 32 = .ok (.iload_n 1, 1) := by decide +kernel
theorem dX1_ungraded_33 : decode cX1_ungraded 33 = .ok (.ireturn, 1) := by decide +kernel
theorem dX1_shareAt_0 : decode cX1_shareAt 0 = .ok (.iconst 0, 1) := by decide +kernel
theorem dX1_shareAt_1 : decode cX1_shareAt 1 = .ok (.istore_n 3, 1) := by decide +kernel
theorem dX1_shareAt_2 : decode cX1_shareAt 2 = .ok (.iconst 0, 1) := by decide +kernel
theorem dX1_shareAt_3 : decode cX1_shareAt 3 = .ok (.istore 4, 2) := by decide +kernel
theorem dX1_shareAt_5 : decode cX1_shareAt 5 = .ok (.iload 4, 2) := by decide +kernel
theorem dX1_shareAt_7 : decode cX1_shareAt 7 = .ok (.aload_n 0, 1) := by decide +kernel
theorem dX1_shareAt_8 : decode cX1_shareAt 8 = .ok (.getfield 9, 3) := by decide +kernel
theorem dX1_shareAt_11 : decode cX1_shareAt 11 = .ok (.if_icmp .ge 32, 3) := by decide +kernel
theorem dX1_shareAt_14 : decode cX1_shareAt 14 = .ok (.aload_n 0, 1) := by decide +kernel
theorem dX1_shareAt_15 : decode cX1_shareAt 15 = .ok (.iload 4, 2) := by decide +kernel
theorem dX1_shareAt_17 : decode cX1_shareAt 17 = .ok (.bipush 98, 2) := by decide +kernel
theorem dX1_shareAt_19 : decode cX1_shareAt 19 = .ok (.iload_n 1, 1) := by decide +kernel
theorem dX1_shareAt_20 : decode cX1_shareAt 20 = .ok (.invokevirtual 38, 3) := by decide +kernel
theorem dX1_shareAt_23 : decode cX1_shareAt 23 = .ok (.ifCond .eq 14, 3) := by decide +kernel
theorem dX1_shareAt_26 : decode cX1_shareAt 26 = .ok (.iload_n 3, 1) := by decide +kernel
theorem dX1_shareAt_27 : decode cX1_shareAt 27 = .ok (.iload_n 2, 1) := by decide +kernel
theorem dX1_shareAt_28 : decode cX1_shareAt 28 = .ok (.if_icmp .ne 6, 3) := by decide +kernel
theorem dX1_shareAt_31 : decode cX1_shareAt 31 = .ok (.iload 4, 2) := by decide +kernel
theorem dX1_shareAt_33 : decode cX1_shareAt 33 = .ok (.ireturn, 1) := by decide +kernel
theorem dX1_shareAt_34 : decode cX1_shareAt 34 = .ok (.iinc 3 1, 3) := by decide +kernel
theorem dX1_shareAt_37 : decode cX1_shareAt 37 = .ok (.iinc 4 1, 3) := by decide +kernel
theorem dX1_shareAt_40 : decode cX1_shareAt 40 = .ok (.goto (-35), 3) := by decide +kernel
theorem dX1_shareAt_43 : decode cX1_shareAt 43 = .ok (.iconst (-1), 1) := by decide +kernel
theorem dX1_shareAt_44 : decode cX1_shareAt 44 = .ok (.ireturn, 1) := by decide +kernel
theorem dX1_isGraded_0 : decode cX1_isGraded 0 = .ok (.iconst 0, 1) := by decide +kernel
theorem dX1_isGraded_1 : decode cX1_isGraded 1 = .ok (.istore_n 2, 1) := by decide +kernel
theorem dX1_isGraded_2 : decode cX1_isGraded 2 = .ok (.iload_n 2, 1) := by decide +kernel
theorem dX1_isGraded_3 : decode cX1_isGraded 3 = .ok (.aload_n 0, 1) := by decide +kernel
theorem dX1_isGraded_4 : decode cX1_isGraded 4 = .ok (.getfield 9, 3) := by decide +kernel
theorem dX1_isGraded_7 : decode cX1_isGraded 7 = .ok (.if_icmp .ge 33, 3) := by decide +kernel
theorem dX1_isGraded_10 : decode cX1_isGraded 10 = .ok (.aload_n 0, 1) := by decide +kernel
theorem dX1_isGraded_11 : decode cX1_isGraded 11 = .ok (.getfield 22, 3) := by decide +kernel
theorem dX1_isGraded_14 : decode cX1_isGraded 14 = .ok (.iload_n 2, 1) := by decide +kernel
theorem dX1_isGraded_15 : decode cX1_isGraded 15 = .ok (.caload, 1) := by decide +kernel
theorem dX1_isGraded_16 : decode cX1_isGraded 16 = .ok (.bipush 45, 2) := by decide +kernel
theorem dX1_isGraded_18 : decode cX1_isGraded 18 = .ok (.if_icmp .ne 16, 3) := by decide +kernel
theorem dX1_isGraded_21 : decode cX1_isGraded 21 = .ok (.aload_n 0, 1) := by decide +kernel
theorem dX1_isGraded_22 : decode cX1_isGraded 22 = .ok (.iload_n 2, 1) := by decide +kernel
theorem dX1_isGraded_23 : decode cX1_isGraded 23 = .ok (.bipush 98, 2) := by decide +kernel
theorem dX1_isGraded_25 : decode cX1_isGraded 25 = .ok (.iload_n 1, 1) := by decide +kernel
theorem dX1_isGraded_26 : decode cX1_isGraded 26 = .ok (.invokevirtual 38, 3) := by decide +kernel
theorem dX1_isGraded_29 : decode cX1_isGraded 29 = .ok (.ifCond .eq 5, 3) := by decide +kernel
theorem dX1_isGraded_32 : decode cX1_isGraded 32 = .ok (.iconst 0, 1) := by decide +kernel
theorem dX1_isGraded_33 : decode cX1_isGraded 33 = .ok (.ireturn, 1) := by decide +kernel
theorem dX1_isGraded_34 : decode cX1_isGraded 34 = .ok (.iinc 2 1, 3) := by decide +kernel
theorem dX1_isGraded_37 : decode cX1_isGraded 37 = .ok (.goto (-35), 3) := by decide +kernel
theorem dX1_isGraded_40 : decode cX1_isGraded 40 = .ok (.iconst 1, 1) := by decide +kernel
theorem dX1_isGraded_41 : decode cX1_isGraded 41 = .ok (.ireturn, 1) := by decide +kernel
theorem dX1_isSpoilt_0 : decode cX1_isSpoilt 0 = .ok (.aload_n 0, 1) := by decide +kernel
theorem dX1_isSpoilt_1 : decode cX1_isSpoilt 1 = .ok (.iload_n 1, 1) := by decide +kernel
theorem dX1_isSpoilt_2 : decode cX1_isSpoilt 2 = .ok (.invokevirtual 42, 3) := by decide +kernel
theorem dX1_isSpoilt_5 : decode cX1_isSpoilt 5 = .ok (.ifCond .le 7, 3) := by decide +kernel
theorem dX1_isSpoilt_8 : decode cX1_isSpoilt 8 = .ok (.iconst 1, 1) := by decide +kernel
theorem dX1_isSpoilt_9 : decode cX1_isSpoilt 9 = .ok (.goto 4, 3) := by decide +kernel
theorem dX1_isSpoilt_12 : decode cX1_isSpoilt 12 = .ok (.iconst 0, 1) := by decide +kernel
theorem dX1_isSpoilt_13 : decode cX1_isSpoilt 13 = .ok (.ireturn, 1) := by decide +kernel
theorem dX1_isSpoiltIn_0 : decode cX1_isSpoiltIn 0 = .ok (.aload_n 0, 1) := by decide +kernel
theorem dX1_isSpoiltIn_1 : decode cX1_isSpoiltIn 1 = .ok (.getfield 22, 3) := by decide +kernel
theorem dX1_isSpoiltIn_4 : decode cX1_isSpoiltIn 4 = .ok (.iload_n 1, 1) := by decide +kernel
theorem dX1_isSpoiltIn_5 : decode cX1_isSpoiltIn 5 = .ok (.caload, 1) := by decide +kernel
theorem dX1_isSpoiltIn_6 : decode cX1_isSpoiltIn 6 = .ok (.bipush 120, 2) := by decide +kernel
theorem dX1_isSpoiltIn_8 : decode cX1_isSpoiltIn 8 = .ok (.if_icmp .ne 18, 3) := by decide +kernel
theorem dX1_isSpoiltIn_11 : decode cX1_isSpoiltIn 11 = .ok (.aload_n 0, 1) := by decide +kernel
theorem dX1_isSpoiltIn_12 : decode cX1_isSpoiltIn 12 = .ok (.iload_n 1, 1) := by decide +kernel
theorem dX1_isSpoiltIn_13 : decode cX1_isSpoiltIn 13 = .ok (.bipush 98, 2) := by decide +kernel
theorem dX1_isSpoiltIn_15 : decode cX1_isSpoiltIn 15 = .ok (.iload_n 2, 1) := by decide +kernel
theorem dX1_isSpoiltIn_16 : decode cX1_isSpoiltIn 16 = .ok (.invokevirtual 38, 3) := by decide +kernel
theorem dX1_isSpoiltIn_19 : decode cX1_isSpoiltIn 19 = .ok (.ifCond .eq 7, 3) := by decide +kernel
theorem dX1_isSpoiltIn_22 : decode cX1_isSpoiltIn 22 = .ok (.iconst 1, 1) := by decide +kernel
theorem dX1_isSpoiltIn_23 : decode cX1_isSpoiltIn 23 = .ok (.goto 4, 3) := by decide +kernel
theorem dX1_isSpoiltIn_26 : decode cX1_isSpoiltIn 26 = .ok (.iconst 0, 1) := by decide +kernel
theorem dX1_isSpoiltIn_27 : decode cX1_isSpoiltIn 27 = .ok (.ireturn, 1) := by decide +kernel
theorem dX1_spoiltLitres_0 : decode cX1_spoiltLitres 0 = .ok (.iconst 0, 1) := by decide +kernel
theorem dX1_spoiltLitres_1 : decode cX1_spoiltLitres 1 = .ok (.istore_n 2, 1) := by decide +kernel
theorem dX1_spoiltLitres_2 : decode cX1_spoiltLitres 2 = .ok (.iconst 0, 1) := by decide +kernel
theorem dX1_spoiltLitres_3 : decode cX1_spoiltLitres 3 = .ok (.istore_n 3, 1) := by decide +kernel
theorem dX1_spoiltLitres_4 : decode cX1_spoiltLitres 4 = .ok (.iload_n 3, 1) := by decide +kernel
theorem dX1_spoiltLitres_5 : decode cX1_spoiltLitres 5 = .ok (.aload_n 0, 1) := by decide +kernel
theorem dX1_spoiltLitres_6 : decode cX1_spoiltLitres 6 = .ok (.getfield 9, 3) := by decide +kernel
theorem dX1_spoiltLitres_9 : decode cX1_spoiltLitres 9 = .ok (.if_icmp .ge 27, 3) := by decide +kernel
theorem dX1_spoiltLitres_12 : decode cX1_spoiltLitres 12 = .ok (.aload_n 0, 1) := by decide +kernel
theorem dX1_spoiltLitres_13 : decode cX1_spoiltLitres 13 = .ok (.iload_n 3, 1) := by decide +kernel
theorem dX1_spoiltLitres_14 : decode cX1_spoiltLitres 14 = .ok (.iload_n 1, 1) := by decide +kernel
theorem dX1_spoiltLitres_15 : decode cX1_spoiltLitres 15 = .ok (.invokevirtual 46, 3) := by decide +kernel
theorem dX1_spoiltLitres_18 : decode cX1_spoiltLitres 18 = .ok (.ifCond .eq 12, 3) := by decide +kernel
theorem dX1_spoiltLitres_21 : decode cX1_spoiltLitres 21 = .ok (.iload_n 2, 1) := by decide +kernel
theorem dX1_spoiltLitres_22 : decode cX1_spoiltLitres 22 = .ok (.aload_n 0, 1) := by decide +kernel
theorem dX1_spoiltLitres_23 : decode cX1_spoiltLitres 23 = .ok (.getfield 19, 3) := by decide +kernel
theorem dX1_spoiltLitres_26 : decode cX1_spoiltLitres 26 = .ok (.iload_n 3, 1) := by decide +kernel
theorem dX1_spoiltLitres_27 : decode cX1_spoiltLitres 27 = .ok (.iaload, 1) := by decide +kernel
theorem dX1_spoiltLitres_28 : decode cX1_spoiltLitres 28 = .ok (.iadd, 1) := by decide +kernel
theorem dX1_spoiltLitres_29 : decode cX1_spoiltLitres 29 = .ok (.istore_n 2, 1) := by decide +kernel
theorem dX1_spoiltLitres_30 : decode cX1_spoiltLitres 30 = .ok (.iinc 3 1, 3) := by decide +kernel
theorem dX1_spoiltLitres_33 : decode cX1_spoiltLitres 33 = .ok (.goto (-29), 3) := by decide +kernel
theorem dX1_spoiltLitres_36 : decode cX1_spoiltLitres 36 = .ok (.iload_n 2, 1) := by decide +kernel
theorem dX1_spoiltLitres_37 : decode cX1_spoiltLitres 37 = .ok (.ireturn, 1) := by decide +kernel
theorem dX1_centsALitre_0 : decode cX1_centsALitre 0 = .ok (.iload_n 0, 1) := by decide +kernel
theorem dX1_centsALitre_1 : decode cX1_centsALitre 1 = .ok (.bipush 97, 2) := by decide +kernel
theorem dX1_centsALitre_3 : decode cX1_centsALitre 3 = .ok (.if_icmp .ne 6, 3) := by decide +kernel
theorem dX1_centsALitre_6 : decode cX1_centsALitre 6 = .ok (.bipush 40, 2) := by decide +kernel
theorem dX1_centsALitre_8 : decode cX1_centsALitre 8 = .ok (.ireturn, 1) := by decide +kernel
theorem dX1_centsALitre_9 : decode cX1_centsALitre 9 = .ok (.iload_n 0, 1) := by decide +kernel
theorem dX1_centsALitre_10 : decode cX1_centsALitre 10 = .ok (.bipush 98, 2) := by decide +kernel
theorem dX1_centsALitre_12 : decode cX1_centsALitre 12 = .ok (.if_icmp .ne 6, 3) := by decide +kernel
theorem dX1_centsALitre_15 : decode cX1_centsALitre 15 = .ok (.bipush 34, 2) := by decide +kernel
theorem dX1_centsALitre_17 : decode cX1_centsALitre 17 = .ok (.ireturn, 1) := by decide +kernel
theorem dX1_centsALitre_18 : decode cX1_centsALitre 18 = .ok (.iload_n 0, 1) := by decide +kernel
theorem dX1_centsALitre_19 : decode cX1_centsALitre 19 = .ok (.bipush 99, 2) := by decide +kernel
theorem dX1_centsALitre_21 : decode cX1_centsALitre 21 = .ok (.if_icmp .ne 8, 3) := by decide +kernel
theorem dX1_centsALitre_24 : decode cX1_centsALitre 24 = .ok (.bipush 25, 2) := by decide +kernel
theorem dX1_centsALitre_26 : decode cX1_centsALitre 26 = .ok (.goto 4, 3) := by decide +kernel
theorem dX1_centsALitre_29 : decode cX1_centsALitre 29 = .ok (.iconst 0, 1) := by decide +kernel
theorem dX1_centsALitre_30 : decode cX1_centsALitre 30 = .ok (.ireturn, 1) := by decide +kernel
theorem dX1_valueOfSample_0 : decode cX1_valueOfSample 0 = .ok (.aload_n 0, 1) := by decide +kernel
theorem dX1_valueOfSample_1 : decode cX1_valueOfSample 1 = .ok (.getfield 19, 3) := by decide +kernel
theorem dX1_valueOfSample_4 : decode cX1_valueOfSample 4 = .ok (.iload_n 1, 1) := by decide +kernel
theorem dX1_valueOfSample_5 : decode cX1_valueOfSample 5 = .ok (.iaload, 1) := by decide +kernel
theorem dX1_valueOfSample_6 : decode cX1_valueOfSample 6 = .ok (.aload_n 0, 1) := by decide +kernel
theorem dX1_valueOfSample_7 : decode cX1_valueOfSample 7 = .ok (.getfield 22, 3) := by decide +kernel
theorem dX1_valueOfSample_10 : decode cX1_valueOfSample 10 = .ok (.iload_n 1, 1) := by decide +kernel
theorem dX1_valueOfSample_11 : decode cX1_valueOfSample 11 = .ok (.caload, 1) := by decide +kernel
theorem dX1_valueOfSample_12 : decode cX1_valueOfSample 12 = .ok (.invokestatic 50, 3) := by decide +kernel
theorem dX1_valueOfSample_15 : decode cX1_valueOfSample 15 = .ok (.imul, 1) := by decide +kernel
theorem dX1_valueOfSample_16 : decode cX1_valueOfSample 16 = .ok (.ireturn, 1) := by decide +kernel
theorem dX1_valueOf_0 : decode cX1_valueOf 0 = .ok (.iconst 0, 1) := by decide +kernel
theorem dX1_valueOf_1 : decode cX1_valueOf 1 = .ok (.istore_n 2, 1) := by decide +kernel
theorem dX1_valueOf_2 : decode cX1_valueOf 2 = .ok (.iconst 0, 1) := by decide +kernel
theorem dX1_valueOf_3 : decode cX1_valueOf 3 = .ok (.istore_n 3, 1) := by decide +kernel
theorem dX1_valueOf_4 : decode cX1_valueOf 4 = .ok (.iload_n 3, 1) := by decide +kernel
theorem dX1_valueOf_5 : decode cX1_valueOf 5 = .ok (.aload_n 0, 1) := by decide +kernel
theorem dX1_valueOf_6 : decode cX1_valueOf 6 = .ok (.getfield 9, 3) := by decide +kernel
theorem dX1_valueOf_9 : decode cX1_valueOf 9 = .ok (.if_icmp .ge 28, 3) := by decide +kernel
theorem dX1_valueOf_12 : decode cX1_valueOf 12 = .ok (.aload_n 0, 1) := by decide +kernel
theorem dX1_valueOf_13 : decode cX1_valueOf 13 = .ok (.iload_n 3, 1) := by decide +kernel
theorem dX1_valueOf_14 : decode cX1_valueOf 14 = .ok (.bipush 98, 2) := by decide +kernel
theorem dX1_valueOf_16 : decode cX1_valueOf 16 = .ok (.iload_n 1, 1) := by decide +kernel
theorem dX1_valueOf_17 : decode cX1_valueOf 17 = .ok (.invokevirtual 38, 3) := by decide +kernel
theorem dX1_valueOf_20 : decode cX1_valueOf 20 = .ok (.ifCond .eq 11, 3) := by decide +kernel
theorem dX1_valueOf_23 : decode cX1_valueOf 23 = .ok (.iload_n 2, 1) := by decide +kernel
theorem dX1_valueOf_24 : decode cX1_valueOf 24 = .ok (.aload_n 0, 1) := by decide +kernel
theorem dX1_valueOf_25 : decode cX1_valueOf 25 = .ok (.iload_n 3, 1) := by decide +kernel
theorem dX1_valueOf_26 : decode cX1_valueOf 26 = .ok (.invokevirtual 54, 3) := by decide +kernel
theorem dX1_valueOf_29 : decode cX1_valueOf 29 = .ok (.iadd, 1) := by decide +kernel
theorem dX1_valueOf_30 : decode cX1_valueOf 30 = .ok (.istore_n 2, 1) := by decide +kernel
theorem dX1_valueOf_31 : decode cX1_valueOf 31 = .ok (.iinc 3 1, 3) := by decide +kernel
theorem dX1_valueOf_34 : decode cX1_valueOf 34 = .ok (.goto (-30), 3) := by decide +kernel
theorem dX1_valueOf_37 : decode cX1_valueOf 37 = .ok (.iload_n 2, 1) := by decide +kernel
theorem dX1_valueOf_38 : decode cX1_valueOf 38 = .ok (.ireturn, 1) := by decide +kernel
theorem dX1_payOfAll_0 : decode cX1_payOfAll 0 = .ok (.aload_n 0, 1) := by decide +kernel
theorem dX1_payOfAll_1 : decode cX1_payOfAll 1 = .ok (.iload_n 1, 1) := by decide +kernel
theorem dX1_payOfAll_2 : decode cX1_payOfAll 2 = .ok (.invokevirtual 57, 3) := by decide +kernel
theorem dX1_payOfAll_5 : decode cX1_payOfAll 5 = .ok (.ifCond .eq 7, 3) := by decide +kernel
theorem dX1_payOfAll_8 : decode cX1_payOfAll 8 = .ok (.iconst 0, 1) := by decide +kernel
theorem dX1_payOfAll_9 : decode cX1_payOfAll 9 = .ok (.goto 8, 3) := by decide +kernel
theorem dX1_payOfAll_12 : decode cX1_payOfAll 12 = .ok (.aload_n 0, 1) := by decide +kernel
theorem dX1_payOfAll_13 : decode cX1_payOfAll 13 = .ok (.iload_n 1, 1) := by decide +kernel
theorem dX1_payOfAll_14 : decode cX1_payOfAll 14 = .ok (.invokevirtual 61, 3) := by decide +kernel
theorem dX1_payOfAll_17 : decode cX1_payOfAll 17 = .ok (.ireturn, 1) := by decide +kernel
theorem dX1_lossOf_0 : decode cX1_lossOf 0 = .ok (.aload_n 0, 1) := by decide +kernel
theorem dX1_lossOf_1 : decode cX1_lossOf 1 = .ok (.iload_n 1, 1) := by decide +kernel
theorem dX1_lossOf_2 : decode cX1_lossOf 2 = .ok (.invokevirtual 57, 3) := by decide +kernel
theorem dX1_lossOf_5 : decode cX1_lossOf 5 = .ok (.ifCond .eq 11, 3) := by decide +kernel
theorem dX1_lossOf_8 : decode cX1_lossOf 8 = .ok (.aload_n 0, 1) := by decide +kernel
theorem dX1_lossOf_9 : decode cX1_lossOf 9 = .ok (.iload_n 1, 1) := by decide +kernel
theorem dX1_lossOf_10 : decode cX1_lossOf 10 = .ok (.invokevirtual 61, 3) := by decide +kernel
theorem dX1_lossOf_13 : decode cX1_lossOf 13 = .ok (.goto 4, 3) := by decide +kernel
theorem dX1_lossOf_16 : decode cX1_lossOf 16 = .ok (.iconst 0, 1) := by decide +kernel
theorem dX1_lossOf_17 : decode cX1_lossOf 17 = .ok (.ireturn, 1) := by decide +kernel
theorem dX1_settle_0 : decode cX1_settle 0 = .ok (.aload_n 0, 1) := by decide +kernel
theorem dX1_settle_1 : decode cX1_settle 1 = .ok (.iload_n 1, 1) := by decide +kernel
theorem dX1_settle_2 : decode cX1_settle 2 = .ok (.invokevirtual 64, 3) := by decide +kernel
theorem dX1_settle_5 : decode cX1_settle 5 = .ok (.ifCond .ne 4, 3) := by decide +kernel
theorem dX1_settle_8 : decode cX1_settle 8 = .ok (.return_, 1) := by decide +kernel
theorem dX1_settle_9 : decode cX1_settle 9 = .ok (.aload_n 0, 1) := by decide +kernel
theorem dX1_settle_10 : decode cX1_settle 10 = .ok (.iload_n 1, 1) := by decide +kernel
theorem dX1_settle_11 : decode cX1_settle 11 = .ok (.invokevirtual 42, 3) := by decide +kernel
theorem dX1_settle_14 : decode cX1_settle 14 = .ok (.istore_n 2, 1) := by decide +kernel
theorem dX1_settle_15 : decode cX1_settle 15 = .ok (.iload_n 2, 1) := by decide +kernel
theorem dX1_settle_16 : decode cX1_settle 16 = .ok (.ifCond .le 12, 3) := by decide +kernel
theorem dX1_settle_19 : decode cX1_settle 19 = .ok (.aload_n 0, 1) := by decide +kernel
theorem dX1_settle_20 : decode cX1_settle 20 = .ok (.iload_n 1, 1) := by decide +kernel
theorem dX1_settle_21 : decode cX1_settle 21 = .ok (.iload_n 2, 1) := by decide +kernel
theorem dX1_settle_22 : decode cX1_settle 22 = .ok (.invokevirtual 67, 3) := by decide +kernel
theorem dX1_settle_25 : decode cX1_settle 25 = .ok (.goto 8, 3) := by decide +kernel
theorem dX1_settle_28 : decode cX1_settle 28 = .ok (.aload_n 0, 1) := by decide +kernel
theorem dX1_settle_29 : decode cX1_settle 29 = .ok (.iload_n 1, 1) := by decide +kernel
theorem dX1_settle_30 : decode cX1_settle 30 = .ok (.invokevirtual 71, 3) := by decide +kernel
theorem dX1_settle_33 : decode cX1_settle 33 = .ok (.return_, 1) := by decide +kernel
theorem dX1_settlePay_0 : decode cX1_settlePay 0 = .ok (.iconst 0, 1) := by decide +kernel
theorem dX1_settlePay_1 : decode cX1_settlePay 1 = .ok (.istore_n 2, 1) := by decide +kernel
theorem dX1_settlePay_2 : decode cX1_settlePay 2 = .ok (.iload_n 2, 1) := by decide +kernel
theorem dX1_settlePay_3 : decode cX1_settlePay 3 = .ok (.aload_n 0, 1) := by decide +kernel
theorem dX1_settlePay_4 : decode cX1_settlePay 4 = .ok (.getfield 9, 3) := by decide +kernel
theorem dX1_settlePay_7 : decode cX1_settlePay 7 = .ok (.if_icmp .ge 31, 3) := by decide +kernel
theorem dX1_settlePay_10 : decode cX1_settlePay 10 = .ok (.aload_n 0, 1) := by decide +kernel
theorem dX1_settlePay_11 : decode cX1_settlePay 11 = .ok (.iload_n 2, 1) := by decide +kernel
theorem dX1_settlePay_12 : decode cX1_settlePay 12 = .ok (.bipush 98, 2) := by decide +kernel
theorem dX1_settlePay_14 : decode cX1_settlePay 14 = .ok (.iload_n 1, 1) := by decide +kernel
theorem dX1_settlePay_15 : decode cX1_settlePay 15 = .ok (.invokevirtual 38, 3) := by decide +kernel
theorem dX1_settlePay_18 : decode cX1_settlePay 18 = .ok (.ifCond .eq 14, 3) := by decide +kernel
theorem dX1_settlePay_21 : decode cX1_settlePay 21 = .ok (.aload_n 0, 1) := by decide +kernel
theorem dX1_settlePay_22 : decode cX1_settlePay 22 = .ok (.getfield 32, 3) := by decide +kernel
theorem dX1_settlePay_25 : decode cX1_settlePay 25 = .ok (.iload_n 2, 1) := by decide +kernel
theorem dX1_settlePay_26 : decode cX1_settlePay 26 = .ok (.aload_n 0, 1) := by decide +kernel
theorem dX1_settlePay_27 : decode cX1_settlePay 27 = .ok (.iload_n 2, 1) := by decide +kernel
theorem dX1_settlePay_28 : decode cX1_settlePay 28 = .ok (.invokevirtual 54, 3) := by decide +kernel
theorem dX1_settlePay_31 : decode cX1_settlePay 31 = .ok (.iastore, 1) := by decide +kernel
theorem dX1_settlePay_32 : decode cX1_settlePay 32 = .ok (.iinc 2 1, 3) := by decide +kernel
theorem dX1_settlePay_35 : decode cX1_settlePay 35 = .ok (.goto (-33), 3) := by decide +kernel
theorem dX1_settlePay_38 : decode cX1_settlePay 38 = .ok (.return_, 1) := by decide +kernel
theorem dX1_settleBlame_0 : decode cX1_settleBlame 0 = .ok (.aload_n 0, 1) := by decide +kernel
theorem dX1_settleBlame_1 : decode cX1_settleBlame 1 = .ok (.iload_n 1, 1) := by decide +kernel
theorem dX1_settleBlame_2 : decode cX1_settleBlame 2 = .ok (.invokevirtual 75, 3) := by decide +kernel
theorem dX1_settleBlame_5 : decode cX1_settleBlame 5 = .ok (.istore_n 3, 1) := by decide +kernel
theorem dX1_settleBlame_6 : decode cX1_settleBlame 6 = .ok (.iload_n 3, 1) := by decide +kernel
theorem dX1_settleBlame_7 : decode cX1_settleBlame 7 = .ok (.istore 4, 2) := by decide +kernel
theorem dX1_settleBlame_9 : decode cX1_settleBlame 9 = .ok (.iconst 0, 1) := by decide +kernel
theorem dX1_settleBlame_10 : decode cX1_settleBlame 10 = .ok (.istore 5, 2) := by decide +kernel
theorem dX1_settleBlame_12 : decode cX1_settleBlame 12 = .ok (.iload 5, 2) := by decide +kernel
theorem dX1_settleBlame_14 : decode cX1_settleBlame 14 = .ok (.aload_n 0, 1) := by decide +kernel
theorem dX1_settleBlame_15 : decode cX1_settleBlame 15 = .ok (.getfield 9, 3) := by decide +kernel
theorem dX1_settleBlame_18 : decode cX1_settleBlame 18 = .ok (.if_icmp .ge 49, 3) := by decide +kernel
theorem dX1_settleBlame_21 : decode cX1_settleBlame 21 = .ok (.aload_n 0, 1) := by decide +kernel
theorem dX1_settleBlame_22 : decode cX1_settleBlame 22 = .ok (.iload 5, 2) := by decide +kernel
theorem dX1_settleBlame_24 : decode cX1_settleBlame 24 = .ok (.iload_n 1, 1) := by decide +kernel
theorem dX1_settleBlame_25 : decode cX1_settleBlame 25 = .ok (.invokevirtual 46, 3) := by decide +kernel
theorem dX1_settleBlame_28 : decode cX1_settleBlame 28 = .ok (.ifCond .eq 33, 3) := by decide +kernel
theorem dX1_settleBlame_31 : decode cX1_settleBlame 31 = .ok (.aload_n 0, 1) := by decide +kernel
theorem dX1_settleBlame_32 : decode cX1_settleBlame 32 = .ok (.getfield 35, 3) := by decide +kernel
theorem dX1_settleBlame_35 : decode cX1_settleBlame 35 = .ok (.iload 5, 2) := by decide +kernel
theorem dX1_settleBlame_37 : decode cX1_settleBlame 37 = .ok (.iload_n 3, 1) := by decide +kernel
theorem dX1_settleBlame_38 : decode cX1_settleBlame 38 = .ok (.aload_n 0, 1) := by decide +kernel
theorem dX1_settleBlame_39 : decode cX1_settleBlame 39 = .ok (.getfield 19, 3) := by decide +kernel
theorem dX1_settleBlame_42 : decode cX1_settleBlame 42 = .ok (.iload 5, 2) := by decide +kernel
theorem dX1_settleBlame_44 : decode cX1_settleBlame 44 = .ok (.iaload, 1) := by decide +kernel
theorem dX1_settleBlame_45 : decode cX1_settleBlame 45 = .ok (.imul, 1) := by decide +kernel
theorem dX1_settleBlame_46 : decode cX1_settleBlame 46 = .ok (.iload_n 2, 1) := by decide +kernel
theorem dX1_settleBlame_47 : decode cX1_settleBlame 47 = .ok (.idiv, 1) := by decide +kernel
theorem dX1_settleBlame_48 : decode cX1_settleBlame 48 = .ok (.iastore, 1) := by decide +kernel
theorem dX1_settleBlame_49 : decode cX1_settleBlame 49 = .ok (.iload 4, 2) := by decide +kernel
theorem dX1_settleBlame_51 : decode cX1_settleBlame 51 = .ok (.aload_n 0, 1) := by decide +kernel
theorem dX1_settleBlame_52 : decode cX1_settleBlame 52 = .ok (.getfield 35, 3) := by decide +kernel
theorem dX1_settleBlame_55 : decode cX1_settleBlame 55 = .ok (.iload 5, 2) := by decide +kernel
theorem dX1_settleBlame_57 : decode cX1_settleBlame 57 = .ok (.iaload, 1) := by decide +kernel
theorem dX1_settleBlame_58 : decode cX1_settleBlame 58 = .ok (.isub, 1) := by decide +kernel
theorem dX1_settleBlame_59 : decode cX1_settleBlame 59 = .ok (.istore 4, 2) := by decide +kernel
theorem dX1_settleBlame_61 : decode cX1_settleBlame 61 = .ok (.iinc 5 1, 3) := by decide +kernel
theorem dX1_settleBlame_64 : decode cX1_settleBlame 64 = .ok (.goto (-52), 3) := by decide +kernel
theorem dX1_settleBlame_67 : decode cX1_settleBlame 67 = .ok (.iconst 0, 1) := by decide +kernel
theorem dX1_settleBlame_68 : decode cX1_settleBlame 68 = .ok (.istore 5, 2) := by decide +kernel
theorem dX1_settleBlame_70 : decode cX1_settleBlame 70 = .ok (.iload 5, 2) := by decide +kernel
theorem dX1_settleBlame_72 : decode cX1_settleBlame 72 = .ok (.aload_n 0, 1) := by decide +kernel
theorem dX1_settleBlame_73 : decode cX1_settleBlame 73 = .ok (.getfield 9, 3) := by decide +kernel
theorem dX1_settleBlame_76 : decode cX1_settleBlame 76 = .ok (.if_icmp .ge 38, 3) := by decide +kernel
theorem dX1_settleBlame_79 : decode cX1_settleBlame 79 = .ok (.iload 4, 2) := by decide +kernel
theorem dX1_settleBlame_81 : decode cX1_settleBlame 81 = .ok (.ifCond .le 33, 3) := by decide +kernel
theorem dX1_settleBlame_84 : decode cX1_settleBlame 84 = .ok (.aload_n 0, 1) := by decide +kernel
theorem dX1_settleBlame_85 : decode cX1_settleBlame 85 = .ok (.iload 5, 2) := by decide +kernel
theorem dX1_settleBlame_87 : decode cX1_settleBlame 87 = .ok (.iload_n 1, 1) := by decide +kernel
theorem dX1_settleBlame_88 : decode cX1_settleBlame 88 = .ok (.invokevirtual 46, 3) := by decide +kernel
theorem dX1_settleBlame_91 : decode cX1_settleBlame 91 = .ok (.ifCond .eq 17, 3) := by decide +kernel
theorem dX1_settleBlame_94 : decode cX1_settleBlame 94 = .ok (.aload_n 0, 1) := by decide +kernel
theorem dX1_settleBlame_95 : decode cX1_settleBlame 95 = .ok (.getfield 35, 3) := by decide +kernel
theorem dX1_settleBlame_98 : decode cX1_settleBlame 98 = .ok (.iload 5, 2) := by decide +kernel
theorem dX1_settleBlame_100 : decode cX1_settleBlame 100 = .ok (.dup2, 1) := by decide +kernel
theorem dX1_settleBlame_101 : decode cX1_settleBlame 101 = .ok (.iaload, 1) := by decide +kernel
theorem dX1_settleBlame_102 : decode cX1_settleBlame 102 = .ok (.iconst 1, 1) := by decide +kernel
theorem dX1_settleBlame_103 : decode cX1_settleBlame 103 = .ok (.iadd, 1) := by decide +kernel
theorem dX1_settleBlame_104 : decode cX1_settleBlame 104 = .ok (.iastore, 1) := by decide +kernel
theorem dX1_settleBlame_105 : decode cX1_settleBlame 105 = .ok (.iinc 4 (-1), 3) := by decide +kernel
theorem dX1_settleBlame_108 : decode cX1_settleBlame 108 = .ok (.iinc 5 1, 3) := by decide +kernel
theorem dX1_settleBlame_111 : decode cX1_settleBlame 111 = .ok (.goto (-41), 3) := by decide +kernel
theorem dX1_settleBlame_114 : decode cX1_settleBlame 114 = .ok (.return_, 1) := by decide +kernel
theorem dX1_paidTo_0 : decode cX1_paidTo 0 = .ok (.iconst 0, 1) := by decide +kernel
theorem dX1_paidTo_1 : decode cX1_paidTo 1 = .ok (.istore_n 3, 1) := by decide +kernel
theorem dX1_paidTo_2 : decode cX1_paidTo 2 = .ok (.iconst 0, 1) := by decide +kernel
theorem dX1_paidTo_3 : decode cX1_paidTo 3 = .ok (.istore 4, 2) := by decide +kernel
theorem dX1_paidTo_5 : decode cX1_paidTo 5 = .ok (.iload 4, 2) := by decide +kernel
theorem dX1_paidTo_7 : decode cX1_paidTo 7 = .ok (.aload_n 0, 1) := by decide +kernel
theorem dX1_paidTo_8 : decode cX1_paidTo 8 = .ok (.getfield 9, 3) := by decide +kernel
theorem dX1_paidTo_11 : decode cX1_paidTo 11 = .ok (.if_icmp .ge 42, 3) := by decide +kernel
theorem dX1_paidTo_14 : decode cX1_paidTo 14 = .ok (.aload_n 0, 1) := by decide +kernel
theorem dX1_paidTo_15 : decode cX1_paidTo 15 = .ok (.getfield 15, 3) := by decide +kernel
theorem dX1_paidTo_18 : decode cX1_paidTo 18 = .ok (.iload 4, 2) := by decide +kernel
theorem dX1_paidTo_20 : decode cX1_paidTo 20 = .ok (.iaload, 1) := by decide +kernel
theorem dX1_paidTo_21 : decode cX1_paidTo 21 = .ok (.iload_n 1, 1) := by decide +kernel
theorem dX1_paidTo_22 : decode cX1_paidTo 22 = .ok (.if_icmp .ne 25, 3) := by decide +kernel
theorem dX1_paidTo_25 : decode cX1_paidTo 25 = .ok (.aload_n 0, 1) := by decide +kernel
theorem dX1_paidTo_26 : decode cX1_paidTo 26 = .ok (.iload 4, 2) := by decide +kernel
theorem dX1_paidTo_28 : decode cX1_paidTo 28 = .ok (.bipush 98, 2) := by decide +kernel
theorem dX1_paidTo_30 : decode cX1_paidTo 30 = .ok (.iload_n 2, 1) := by decide +kernel
theorem dX1_paidTo_31 : decode cX1_paidTo 31 = .ok (.invokevirtual 38, 3) := by decide +kernel
theorem dX1_paidTo_34 : decode cX1_paidTo 34 = .ok (.ifCond .eq 13, 3) := by decide +kernel
theorem dX1_paidTo_37 : decode cX1_paidTo 37 = .ok (.iload_n 3, 1) := by decide +kernel
theorem dX1_paidTo_38 : decode cX1_paidTo 38 = .ok (.aload_n 0, 1) := by decide +kernel
theorem dX1_paidTo_39 : decode cX1_paidTo 39 = .ok (.getfield 32, 3) := by decide +kernel
theorem dX1_paidTo_42 : decode cX1_paidTo 42 = .ok (.iload 4, 2) := by decide +kernel
theorem dX1_paidTo_44 : decode cX1_paidTo 44 = .ok (.iaload, 1) := by decide +kernel
theorem dX1_paidTo_45 : decode cX1_paidTo 45 = .ok (.iadd, 1) := by decide +kernel
theorem dX1_paidTo_46 : decode cX1_paidTo 46 = .ok (.istore_n 3, 1) := by decide +kernel
theorem dX1_paidTo_47 : decode cX1_paidTo 47 = .ok (.iinc 4 1, 3) := by decide +kernel
theorem dX1_paidTo_50 : decode cX1_paidTo 50 = .ok (.goto (-45), 3) := by decide +kernel
theorem dX1_paidTo_53 : decode cX1_paidTo 53 = .ok (.iload_n 3, 1) := by decide +kernel
theorem dX1_paidTo_54 : decode cX1_paidTo 54 = .ok (.ireturn, 1) := by decide +kernel
theorem dX1_blamedOn_0 : decode cX1_blamedOn 0 = .ok (.iconst 0, 1) := by decide +kernel
theorem dX1_blamedOn_1 : decode cX1_blamedOn 1 = .ok (.istore_n 3, 1) := by decide +kernel
theorem dX1_blamedOn_2 : decode cX1_blamedOn 2 = .ok (.iconst 0, 1) := by decide +kernel
theorem dX1_blamedOn_3 : decode cX1_blamedOn 3 = .ok (.istore 4, 2) := by decide +kernel
theorem dX1_blamedOn_5 : decode cX1_blamedOn 5 = .ok (.iload 4, 2) := by decide +kernel
theorem dX1_blamedOn_7 : decode cX1_blamedOn 7 = .ok (.aload_n 0, 1) := by decide +kernel
theorem dX1_blamedOn_8 : decode cX1_blamedOn 8 = .ok (.getfield 9, 3) := by decide +kernel
theorem dX1_blamedOn_11 : decode cX1_blamedOn 11 = .ok (.if_icmp .ge 42, 3) := by decide +kernel
theorem dX1_blamedOn_14 : decode cX1_blamedOn 14 = .ok (.aload_n 0, 1) := by decide +kernel
theorem dX1_blamedOn_15 : decode cX1_blamedOn 15 = .ok (.getfield 15, 3) := by decide +kernel
theorem dX1_blamedOn_18 : decode cX1_blamedOn 18 = .ok (.iload 4, 2) := by decide +kernel
theorem dX1_blamedOn_20 : decode cX1_blamedOn 20 = .ok (.iaload, 1) := by decide +kernel
theorem dX1_blamedOn_21 : decode cX1_blamedOn 21 = .ok (.iload_n 1, 1) := by decide +kernel
theorem dX1_blamedOn_22 : decode cX1_blamedOn 22 = .ok (.if_icmp .ne 25, 3) := by decide +kernel
theorem dX1_blamedOn_25 : decode cX1_blamedOn 25 = .ok (.aload_n 0, 1) := by decide +kernel
theorem dX1_blamedOn_26 : decode cX1_blamedOn 26 = .ok (.iload 4, 2) := by decide +kernel
theorem dX1_blamedOn_28 : decode cX1_blamedOn 28 = .ok (.bipush 98, 2) := by decide +kernel
theorem dX1_blamedOn_30 : decode cX1_blamedOn 30 = .ok (.iload_n 2, 1) := by decide +kernel
theorem dX1_blamedOn_31 : decode cX1_blamedOn 31 = .ok (.invokevirtual 38, 3) := by decide +kernel
theorem dX1_blamedOn_34 : decode cX1_blamedOn 34 = .ok (.ifCond .eq 13, 3) := by decide +kernel
theorem dX1_blamedOn_37 : decode cX1_blamedOn 37 = .ok (.iload_n 3, 1) := by decide +kernel
theorem dX1_blamedOn_38 : decode cX1_blamedOn 38 = .ok (.aload_n 0, 1) := by decide +kernel
theorem dX1_blamedOn_39 : decode cX1_blamedOn 39 = .ok (.getfield 35, 3) := by decide +kernel
theorem dX1_blamedOn_42 : decode cX1_blamedOn 42 = .ok (.iload 4, 2) := by decide +kernel
theorem dX1_blamedOn_44 : decode cX1_blamedOn 44 = .ok (.iaload, 1) := by decide +kernel
theorem dX1_blamedOn_45 : decode cX1_blamedOn 45 = .ok (.iadd, 1) := by decide +kernel
theorem dX1_blamedOn_46 : decode cX1_blamedOn 46 = .ok (.istore_n 3, 1) := by decide +kernel
theorem dX1_blamedOn_47 : decode cX1_blamedOn 47 = .ok (.iinc 4 1, 3) := by decide +kernel
theorem dX1_blamedOn_50 : decode cX1_blamedOn 50 = .ok (.goto (-45), 3) := by decide +kernel
theorem dX1_blamedOn_53 : decode cX1_blamedOn 53 = .ok (.iload_n 3, 1) := by decide +kernel
theorem dX1_blamedOn_54 : decode cX1_blamedOn 54 = .ok (.ireturn, 1) := by decide +kernel
theorem dX1_balanceOf_0 : decode cX1_balanceOf 0 = .ok (.lconst 0, 1) := by decide +kernel
theorem dX1_balanceOf_1 : decode cX1_balanceOf 1 = .ok (.lstore_n 2, 1) := by decide +kernel
theorem dX1_balanceOf_2 : decode cX1_balanceOf 2 = .ok (.iconst 0, 1) := by decide +kernel
theorem dX1_balanceOf_3 : decode cX1_balanceOf 3 = .ok (.istore 4, 2) := by decide +kernel
theorem dX1_balanceOf_5 : decode cX1_balanceOf 5 = .ok (.iload 4, 2) := by decide +kernel
theorem dX1_balanceOf_7 : decode cX1_balanceOf 7 = .ok (.aload_n 0, 1) := by decide +kernel
theorem dX1_balanceOf_8 : decode cX1_balanceOf 8 = .ok (.getfield 9, 3) := by decide +kernel
theorem dX1_balanceOf_11 : decode cX1_balanceOf 11 = .ok (.if_icmp .ge 39, 3) := by decide +kernel
theorem dX1_balanceOf_14 : decode cX1_balanceOf 14 = .ok (.aload_n 0, 1) := by decide +kernel
theorem dX1_balanceOf_15 : decode cX1_balanceOf 15 = .ok (.getfield 15, 3) := by decide +kernel
theorem dX1_balanceOf_18 : decode cX1_balanceOf 18 = .ok (.iload 4, 2) := by decide +kernel
theorem dX1_balanceOf_20 : decode cX1_balanceOf 20 = .ok (.iaload, 1) := by decide +kernel
theorem dX1_balanceOf_21 : decode cX1_balanceOf 21 = .ok (.iload_n 1, 1) := by decide +kernel
theorem dX1_balanceOf_22 : decode cX1_balanceOf 22 = .ok (.if_icmp .ne 22, 3) := by decide +kernel
theorem dX1_balanceOf_25 : decode cX1_balanceOf 25 = .ok (.lload_n 2, 1) := by decide +kernel
theorem dX1_balanceOf_26 : decode cX1_balanceOf 26 = .ok (.aload_n 0, 1) := by decide +kernel
theorem dX1_balanceOf_27 : decode cX1_balanceOf 27 = .ok (.getfield 32, 3) := by decide +kernel
theorem dX1_balanceOf_30 : decode cX1_balanceOf 30 = .ok (.iload 4, 2) := by decide +kernel
theorem dX1_balanceOf_32 : decode cX1_balanceOf 32 = .ok (.iaload, 1) := by decide +kernel
theorem dX1_balanceOf_33 : decode cX1_balanceOf 33 = .ok (.aload_n 0, 1) := by decide +kernel
theorem dX1_balanceOf_34 : decode cX1_balanceOf 34 = .ok (.getfield 35, 3) := by decide +kernel
theorem dX1_balanceOf_37 : decode cX1_balanceOf 37 = .ok (.iload 4, 2) := by decide +kernel
theorem dX1_balanceOf_39 : decode cX1_balanceOf 39 = .ok (.iaload, 1) := by decide +kernel
theorem dX1_balanceOf_40 : decode cX1_balanceOf 40 = .ok (.isub, 1) := by decide +kernel
theorem dX1_balanceOf_41 : decode cX1_balanceOf 41 = .ok (.i2l, 1) := by decide +kernel
theorem dX1_balanceOf_42 : decode cX1_balanceOf 42 = .ok (.ladd, 1) := by decide +kernel
theorem dX1_balanceOf_43 : decode cX1_balanceOf 43 = .ok (.lstore_n 2, 1) := by decide +kernel
theorem dX1_balanceOf_44 : decode cX1_balanceOf 44 = .ok (.iinc 4 1, 3) := by decide +kernel
theorem dX1_balanceOf_47 : decode cX1_balanceOf 47 = .ok (.goto (-42), 3) := by decide +kernel
theorem dX1_balanceOf_50 : decode cX1_balanceOf 50 = .ok (.lload_n 2, 1) := by decide +kernel
theorem dX1_balanceOf_51 : decode cX1_balanceOf 51 = .ok (.lreturn, 1) := by decide +kernel
theorem dX2_init_0 : decode cX2_init 0 = .ok (.aload_n 0, 1) := by decide +kernel
theorem dX2_init_1 : decode cX2_init 1 = .ok (.invokespecial 1, 3) := by decide +kernel
theorem dX2_init_4 : decode cX2_init 4 = .ok (.aload_n 0, 1) := by decide +kernel
theorem dX2_init_5 : decode cX2_init 5 = .ok (.iconst 0, 1) := by decide +kernel
theorem dX2_init_6 : decode cX2_init 6 = .ok (.putfield 7, 3) := by decide +kernel
theorem dX2_init_9 : decode cX2_init 9 = .ok (.aload_n 0, 1) := by decide +kernel
theorem dX2_init_10 : decode cX2_init 10 = .ok (.new 13, 3) := by decide +kernel
theorem dX2_init_13 : decode cX2_init 13 = .ok (.dup, 1) := by decide +kernel
theorem dX2_init_14 : decode cX2_init 14 = .ok (.invokespecial 15, 3) := by decide +kernel
theorem dX2_init_17 : decode cX2_init 17 = .ok (.putfield 16, 3) := by decide +kernel
theorem dX2_init_20 : decode cX2_init 20 = .ok (.aload_n 0, 1) := by decide +kernel
theorem dX2_init_21 : decode cX2_init 21 = .ok (.iconst 0, 1) := by decide +kernel
theorem dX2_init_22 : decode cX2_init 22 = .ok (.putfield 20, 3) := by decide +kernel
theorem dX2_init_25 : decode cX2_init 25 = .ok (.aload_n 0, 1) := by decide +kernel
theorem dX2_init_26 : decode cX2_init 26 = .ok (.iconst 4, 1) := by decide +kernel
theorem dX2_init_27 : decode cX2_init 27 = .ok (.newarray .int, 2) := by decide +kernel
theorem dX2_init_29 : decode cX2_init 29 = .ok (.putfield 23, 3) := by decide +kernel
theorem dX2_init_32 : decode cX2_init 32 = .ok (.aload_n 0, 1) := by decide +kernel
theorem dX2_init_33 : decode cX2_init 33 = .ok (.iconst 0, 1) := by decide +kernel
theorem dX2_init_34 : decode cX2_init 34 = .ok (.putfield 27, 3) := by decide +kernel
theorem dX2_init_37 : decode cX2_init 37 = .ok (.aload_n 0, 1) := by decide +kernel
theorem dX2_init_38 : decode cX2_init 38 = .ok (.iconst 0, 1) := by decide +kernel
theorem dX2_init_39 : decode cX2_init 39 = .ok (.putfield 30, 3) := by decide +kernel
theorem dX2_init_42 : decode cX2_init 42 = .ok (.aload_n 0, 1) := by decide +kernel
theorem dX2_init_43 : decode cX2_init 43 = .ok (.bipush 6, 2) := by decide +kernel
theorem dX2_init_45 : decode cX2_init 45 = .ok (.newarray .boolean, 2) := by decide +kernel
theorem dX2_init_47 : decode cX2_init 47 = .ok (.putfield 34, 3) := by decide +kernel
theorem dX2_init_50 : decode cX2_init 50 = .ok (.aload_n 0, 1) := by decide +kernel
theorem dX2_init_51 : decode cX2_init 51 = .ok (.new 38, 3) := by decide +kernel
theorem dX2_init_54 : decode cX2_init 54 = .ok (.dup, 1) := by decide +kernel
theorem dX2_init_55 : decode cX2_init 55 = .ok (.invokespecial 40, 3) := by decide +kernel
theorem dX2_init_58 : decode cX2_init 58 = .ok (.putfield 41, 3) := by decide +kernel
theorem dX2_init_61 : decode cX2_init 61 = .ok (.aload_n 0, 1) := by decide +kernel
theorem dX2_init_62 : decode cX2_init 62 = .ok (.iconst 0, 1) := by decide +kernel
theorem dX2_init_63 : decode cX2_init 63 = .ok (.putfield 45, 3) := by decide +kernel
theorem dX2_init_66 : decode cX2_init 66 = .ok (.return_, 1) := by decide +kernel
theorem dX2_addFarm_0 : decode cX2_addFarm 0 = .ok (.iload_n 1, 1) := by decide +kernel
theorem dX2_addFarm_1 : decode cX2_addFarm 1 = .ok (.bipush 10, 2) := by decide +kernel
theorem dX2_addFarm_3 : decode cX2_addFarm 3 = .ok (.if_icmp .lt 10, 3) := by decide +kernel
theorem dX2_addFarm_6 : decode cX2_addFarm 6 = .ok (.iload_n 1, 1) := by decide +kernel
theorem dX2_addFarm_7 : decode cX2_addFarm 7 = .ok (.sipush 200, 3) := by decide +kernel
theorem dX2_addFarm_10 : decode cX2_addFarm 10 = .ok (.if_icmp .le 13, 3) := by decide +kernel
theorem dX2_addFarm_13 : decode cX2_addFarm 13 = .ok (.new 48, 3) := by decide +kernel
theorem dX2_addFarm_16 : decode cX2_addFarm 16 = .ok (.dup, 1) := by decide +kernel
theorem dX2_addFarm_17 : decode cX2_addFarm 17 = .ok (.ldc 50, 2) := by decide +kernel
theorem dX2_addFarm_19 : decode cX2_addFarm 19 = .ok (.invokespecial 52, 3) := by decide +kernel
theorem dX2_addFarm_22 : decode cX2_addFarm 22 = .ok (.athrow, 1) := by decide +kernel
theorem dX2_addFarm_23 : decode cX2_addFarm 23 = .ok (.aload_n 0, 1) := by decide +kernel
theorem dX2_addFarm_24 : decode cX2_addFarm 24 = .ok (.getfield 16, 3) := by decide +kernel
theorem dX2_addFarm_27 : decode cX2_addFarm 27 = .ok (.getfield 55, 3) := by decide +kernel
theorem dX2_addFarm_30 : decode cX2_addFarm 30 = .ok (.bipush 6, 2) := by decide +kernel
theorem dX2_addFarm_32 : decode cX2_addFarm 32 = .ok (.if_icmp .lt 13, 3) := by decide +kernel
theorem dX2_addFarm_35 : decode cX2_addFarm 35 = .ok (.new 58, 3) := by decide +kernel
theorem dX2_addFarm_38 : decode cX2_addFarm 38 = .ok (.dup, 1) := by decide +kernel
theorem dX2_addFarm_39 : decode cX2_addFarm 39 = .ok (.ldc 60, 2) := by decide +kernel
theorem dX2_addFarm_41 : decode cX2_addFarm 41 = .ok (.invokespecial 62, 3) := by decide +kernel
theorem dX2_addFarm_44 : decode cX2_addFarm 44 = .ok (.athrow, 1) := by decide +kernel
theorem dX2_addFarm_45 : decode cX2_addFarm 45 = .ok (.aload_n 0, 1) := by decide +kernel
theorem dX2_addFarm_46 : decode cX2_addFarm 46 = .ok (.getfield 16, 3) := by decide +kernel
theorem dX2_addFarm_49 : decode cX2_addFarm 49 = .ok (.iload_n 1, 1) := by decide +kernel
theorem dX2_addFarm_50 : decode cX2_addFarm 50 = .ok (.invokevirtual 63, 3) := by decide +kernel
theorem dX2_addFarm_53 : decode cX2_addFarm 53 = .ok (.ireturn, 1) := by decide +kernel
theorem dX2_addCow_0 : decode cX2_addCow 0 = .ok (.aload_n 0, 1) := by decide +kernel
theorem dX2_addCow_1 : decode cX2_addCow 1 = .ok (.iload_n 1, 1) := by decide +kernel
theorem dX2_addCow_2 : decode cX2_addCow 2 = .ok (.invokevirtual 67, 3) := by decide +kernel
theorem dX2_addCow_5 : decode cX2_addCow 5 = .ok (.iload_n 2, 1) := by decide +kernel
theorem dX2_addCow_6 : decode cX2_addCow 6 = .ok (.iconst 5, 1) := by decide +kernel
theorem dX2_addCow_7 : decode cX2_addCow 7 = .ok (.if_icmp .lt 9, 3) := by decide +kernel
theorem dX2_addCow_10 : decode cX2_addCow 10 = .ok (.iload_n 2, 1) := by decide +kernel
theorem dX2_addCow_11 : decode cX2_addCow 11 = .ok (.bipush 30, 2) := by decide +kernel
theorem dX2_addCow_13 : decode cX2_addCow 13 = .ok (.if_icmp .le 13, 3) := by decide +kernel
theorem dX2_addCow_16 : decode cX2_addCow 16 = .ok (.new 48, 3) := by decide +kernel
theorem dX2_addCow_19 : decode cX2_addCow 19 = .ok (.dup, 1) := by decide +kernel
theorem dX2_addCow_20 : decode cX2_addCow 20 = .ok (.ldc 71, 2) := by decide +kernel
theorem dX2_addCow_22 : decode cX2_addCow 22 = .ok (.invokespecial 52, 3) := by decide +kernel
theorem dX2_addCow_25 : decode cX2_addCow 25 = .ok (.athrow, 1) := by decide +kernel
theorem dX2_addCow_26 : decode cX2_addCow 26 = .ok (.aload_n 0, 1) := by decide +kernel
theorem dX2_addCow_27 : decode cX2_addCow 27 = .ok (.getfield 16, 3) := by decide +kernel
theorem dX2_addCow_30 : decode cX2_addCow 30 = .ok (.getfield 73, 3) := by decide +kernel
theorem dX2_addCow_33 : decode cX2_addCow 33 = .ok (.iload_n 1, 1) := by decide +kernel
theorem dX2_addCow_34 : decode cX2_addCow 34 = .ok (.iaload, 1) := by decide +kernel
theorem dX2_addCow_35 : decode cX2_addCow 35 = .ok (.iconst 5, 1) := by decide +kernel
theorem dX2_addCow_36 : decode cX2_addCow 36 = .ok (.if_icmp .lt 13, 3) := by decide +kernel
theorem dX2_addCow_39 : decode cX2_addCow 39 = .ok (.new 58, 3) := by decide +kernel
theorem dX2_addCow_42 : decode cX2_addCow 42 = .ok (.dup, 1) := by decide +kernel
theorem dX2_addCow_43 : decode cX2_addCow 43 = .ok (.ldc 76, 2) := by decide +kernel
theorem dX2_addCow_45 : decode cX2_addCow 45 = .ok (.invokespecial 62, 3) := by decide +kernel
theorem dX2_addCow_48 : decode cX2_addCow 48 = .ok (.athrow, 1) := by decide +kernel
theorem dX2_addCow_49 : decode cX2_addCow 49 = .ok (.aload_n 0, 1) := by decide +kernel
theorem dX2_addCow_50 : decode cX2_addCow 50 = .ok (.getfield 16, 3) := by decide +kernel
theorem dX2_addCow_53 : decode cX2_addCow 53 = .ok (.iload_n 1, 1) := by decide +kernel
theorem dX2_addCow_54 : decode cX2_addCow 54 = .ok (.iload_n 2, 1) := by decide +kernel
theorem dX2_addCow_55 : decode cX2_addCow 55 = .ok (.invokevirtual 78, 3) := by decide +kernel
theorem dX2_addCow_58 : decode cX2_addCow 58 = .ok (.ireturn, 1) := by decide +kernel
theorem dX2_milkOf_0 : decode cX2_milkOf 0 = .ok (.aload_n 0, 1) := by decide +kernel
theorem dX2_milkOf_1 : decode cX2_milkOf 1 = .ok (.iload_n 1, 1) := by decide +kernel
theorem dX2_milkOf_2 : decode cX2_milkOf 2 = .ok (.invokevirtual 67, 3) := by decide +kernel
theorem dX2_milkOf_5 : decode cX2_milkOf 5 = .ok (.iload_n 2, 1) := by decide +kernel
theorem dX2_milkOf_6 : decode cX2_milkOf 6 = .ok (.ifCond .lt 10, 3) := by decide +kernel
theorem dX2_milkOf_9 : decode cX2_milkOf 9 = .ok (.iload_n 2, 1) := by decide +kernel
theorem dX2_milkOf_10 : decode cX2_milkOf 10 = .ok (.sipush 999, 3) := by decide +kernel
theorem dX2_milkOf_13 : decode cX2_milkOf 13 = .ok (.if_icmp .le 13, 3) := by decide +kernel
theorem dX2_milkOf_16 : decode cX2_milkOf 16 = .ok (.new 48, 3) := by decide +kernel
theorem dX2_milkOf_19 : decode cX2_milkOf 19 = .ok (.dup, 1) := by decide +kernel
theorem dX2_milkOf_20 : decode cX2_milkOf 20 = .ok (.ldc 82, 2) := by decide +kernel
theorem dX2_milkOf_22 : decode cX2_milkOf 22 = .ok (.invokespecial 52, 3) := by decide +kernel
theorem dX2_milkOf_25 : decode cX2_milkOf 25 = .ok (.athrow, 1) := by decide +kernel
theorem dX2_milkOf_26 : decode cX2_milkOf 26 = .ok (.aload_n 0, 1) := by decide +kernel
theorem dX2_milkOf_27 : decode cX2_milkOf 27 = .ok (.getfield 16, 3) := by decide +kernel
theorem dX2_milkOf_30 : decode cX2_milkOf 30 = .ok (.iload_n 1, 1) := by decide +kernel
theorem dX2_milkOf_31 : decode cX2_milkOf 31 = .ok (.iload_n 2, 1) := by decide +kernel
theorem dX2_milkOf_32 : decode cX2_milkOf 32 = .ok (.invokevirtual 84, 3) := by decide +kernel
theorem dX2_milkOf_35 : decode cX2_milkOf 35 = .ok (.ireturn, 1) := by decide +kernel
theorem dX2_inTank_0 : decode cX2_inTank 0 = .ok (.aload_n 0, 1) := by decide +kernel
theorem dX2_inTank_1 : decode cX2_inTank 1 = .ok (.iload_n 1, 1) := by decide +kernel
theorem dX2_inTank_2 : decode cX2_inTank 2 = .ok (.invokevirtual 67, 3) := by decide +kernel
theorem dX2_inTank_5 : decode cX2_inTank 5 = .ok (.aload_n 0, 1) := by decide +kernel
theorem dX2_inTank_6 : decode cX2_inTank 6 = .ok (.getfield 16, 3) := by decide +kernel
theorem dX2_inTank_9 : decode cX2_inTank 9 = .ok (.getfield 87, 3) := by decide +kernel
theorem dX2_inTank_12 : decode cX2_inTank 12 = .ok (.iload_n 1, 1) := by decide +kernel
theorem dX2_inTank_13 : decode cX2_inTank 13 = .ok (.iaload, 1) := by decide +kernel
theorem dX2_inTank_14 : decode cX2_inTank 14 = .ok (.ireturn, 1) := by decide +kernel
theorem dX2_pass_0 : decode cX2_pass 0 = .ok (.iload_n 1, 1) := by decide +kernel
theorem dX2_pass_1 : decode cX2_pass 1 = .ok (.iconst 1, 1) := by decide +kernel
theorem dX2_pass_2 : decode cX2_pass 2 = .ok (.if_icmp .lt 21, 3) := by decide +kernel
theorem dX2_pass_5 : decode cX2_pass 5 = .ok (.iload_n 1, 1) := by decide +kernel
theorem dX2_pass_6 : decode cX2_pass 6 = .ok (.bipush 30, 2) := by decide +kernel
theorem dX2_pass_8 : decode cX2_pass 8 = .ok (.if_icmp .gt 15, 3) := by decide +kernel
theorem dX2_pass_11 : decode cX2_pass 11 = .ok (.aload_n 0, 1) := by decide +kernel
theorem dX2_pass_12 : decode cX2_pass 12 = .ok (.getfield 7, 3) := by decide +kernel
theorem dX2_pass_15 : decode cX2_pass 15 = .ok (.iload_n 1, 1) := by decide +kernel
theorem dX2_pass_16 : decode cX2_pass 16 = .ok (.iadd, 1) := by decide +kernel
theorem dX2_pass_17 : decode cX2_pass 17 = .ok (.sipush 999, 3) := by decide +kernel
theorem dX2_pass_20 : decode cX2_pass 20 = .ok (.if_icmp .le 13, 3) := by decide +kernel
theorem dX2_pass_23 : decode cX2_pass 23 = .ok (.new 48, 3) := by decide +kernel
theorem dX2_pass_26 : decode cX2_pass 26 = .ok (.dup, 1) := by decide +kernel
theorem dX2_pass_27 : decode cX2_pass 27 = .ok (.ldc 90, 2) := by decide +kernel
theorem dX2_pass_29 : decode cX2_pass 29 = .ok (.invokespecial 52, 3) := by decide +kernel
theorem dX2_pass_32 : decode cX2_pass 32 = .ok (.athrow, 1) := by decide +kernel
theorem dX2_pass_33 : decode cX2_pass 33 = .ok (.iconst 0, 1) := by decide +kernel
theorem dX2_pass_34 : decode cX2_pass 34 = .ok (.istore_n 2, 1) := by decide +kernel
theorem dX2_pass_35 : decode cX2_pass 35 = .ok (.iconst 0, 1) := by decide +kernel
theorem dX2_pass_36 : decode cX2_pass 36 = .ok (.istore_n 3, 1) := by decide +kernel
theorem dX2_pass_37 : decode cX2_pass 37 = .ok (.iload_n 3, 1) := by decide +kernel
theorem dX2_pass_38 : decode cX2_pass 38 = .ok (.iload_n 1, 1) := by decide +kernel
theorem dX2_pass_39 : decode cX2_pass 39 = .ok (.if_icmp .ge 33, 3) := by decide +kernel
theorem dX2_pass_42 : decode cX2_pass 42 = .ok (.aload_n 0, 1) := by decide +kernel
theorem dX2_pass_43 : decode cX2_pass 43 = .ok (.dup, 1) := by decide +kernel
theorem dX2_pass_44 : decode cX2_pass 44 = .ok (.getfield 7, 3) := by decide +kernel
theorem dX2_pass_47 : decode cX2_pass 47 = .ok (.iconst 1, 1) := by decide +kernel
theorem dX2_pass_48 : decode cX2_pass 48 = .ok (.iadd, 1) := by decide +kernel
theorem dX2_pass_49 : decode cX2_pass 49 = .ok (.putfield 7, 3) := by decide +kernel
theorem dX2_pass_52 : decode cX2_pass 52 = .ok (.iload_n 2, 1) := by decide +kernel
theorem dX2_pass_53 : decode cX2_pass 53 = .ok (.aload_n 0, 1) := by decide +kernel
theorem dX2_pass_54 : decode cX2_pass 54 = .ok (.getfield 16, 3) := by decide +kernel
theorem dX2_pass_57 : decode cX2_pass 57 = .ok (.aload_n 0, 1) := by decide +kernel
theorem dX2_pass_58 : decode cX2_pass 58 = .ok (.getfield 7, 3) := by decide +kernel
theorem dX2_pass_61 : decode cX2_pass 61 = .ok (.invokevirtual 92, 3) := by decide +kernel
theorem dX2_pass_64 : decode cX2_pass 64 = .ok (.iadd, 1) := by decide +kernel
theorem dX2_pass_65 : decode cX2_pass 65 = .ok (.istore_n 2, 1) := by decide +kernel
theorem dX2_pass_66 : decode cX2_pass 66 = .ok (.iinc 3 1, 3) := by decide +kernel
theorem dX2_pass_69 : decode cX2_pass 69 = .ok (.goto (-32), 3) := by decide +kernel
theorem dX2_pass_72 : decode cX2_pass 72 = .ok (.iload_n 2, 1) := by decide +kernel
theorem dX2_pass_73 : decode cX2_pass 73 = .ok (.ireturn, 1) := by decide +kernel
theorem dX2_day_0 : decode cX2_day 0 = .ok (.aload_n 0, 1) := by decide +kernel
theorem dX2_day_1 : decode cX2_day 1 = .ok (.getfield 7, 3) := by decide +kernel
theorem dX2_day_4 : decode cX2_day 4 = .ok (.ireturn, 1) := by decide +kernel
theorem dX2_addVat_0 : decode cX2_addVat 0 = .ok (.iload_n 1, 1) := by decide +kernel
theorem dX2_addVat_1 : decode cX2_addVat 1 = .ok (.bipush 100, 2) := by decide +kernel
theorem dX2_addVat_3 : decode cX2_addVat 3 = .ok (.if_icmp .lt 10, 3) := by decide +kernel
theorem dX2_addVat_6 : decode cX2_addVat 6 = .ok (.iload_n 1, 1) := by decide +kernel
theorem dX2_addVat_7 : decode cX2_addVat 7 = .ok (.sipush 900, 3) := by decide +kernel
theorem dX2_addVat_10 : decode cX2_addVat 10 = .ok (.if_icmp .le 13, 3) := by decide +kernel
theorem dX2_addVat_13 : decode cX2_addVat 13 = .ok (.new 48, 3) := by decide +kernel
theorem dX2_addVat_16 : decode cX2_addVat 16 = .ok (.dup, 1) := by decide +kernel
theorem dX2_addVat_17 : decode cX2_addVat 17 = .ok (.ldc 95, 2) := by decide +kernel
theorem dX2_addVat_19 : decode cX2_addVat 19 = .ok (.invokespecial 52, 3) := by decide +kernel
theorem dX2_addVat_22 : decode cX2_addVat 22 = .ok (.athrow, 1) := by decide +kernel
theorem dX2_addVat_23 : decode cX2_addVat 23 = .ok (.aload_n 0, 1) := by decide +kernel
theorem dX2_addVat_24 : decode cX2_addVat 24 = .ok (.getfield 20, 3) := by decide +kernel
theorem dX2_addVat_27 : decode cX2_addVat 27 = .ok (.iconst 4, 1) := by decide +kernel
theorem dX2_addVat_28 : decode cX2_addVat 28 = .ok (.if_icmp .lt 13, 3) := by decide +kernel
theorem dX2_addVat_31 : decode cX2_addVat 31 = .ok (.new 58, 3) := by decide +kernel
theorem dX2_addVat_34 : decode cX2_addVat 34 = .ok (.dup, 1) := by decide +kernel
theorem dX2_addVat_35 : decode cX2_addVat 35 = .ok (.ldc 97, 2) := by decide +kernel
theorem dX2_addVat_37 : decode cX2_addVat 37 = .ok (.invokespecial 62, 3) := by decide +kernel
theorem dX2_addVat_40 : decode cX2_addVat 40 = .ok (.athrow, 1) := by decide +kernel
theorem dX2_addVat_41 : decode cX2_addVat 41 = .ok (.aload_n 0, 1) := by decide +kernel
theorem dX2_addVat_42 : decode cX2_addVat 42 = .ok (.getfield 23, 3) := by decide +kernel
theorem dX2_addVat_45 : decode cX2_addVat 45 = .ok (.aload_n 0, 1) := by decide +kernel
theorem dX2_addVat_46 : decode cX2_addVat 46 = .ok (.getfield 20, 3) := by decide +kernel
theorem dX2_addVat_49 : decode cX2_addVat 49 = .ok (.iload_n 1, 1) := by decide +kernel
theorem dX2_addVat_50 : decode cX2_addVat 50 = .ok (.iastore, 1) := by decide +kernel
theorem dX2_addVat_51 : decode cX2_addVat 51 = .ok (.aload_n 0, 1) := by decide +kernel
theorem dX2_addVat_52 : decode cX2_addVat 52 = .ok (.dup, 1) := by decide +kernel
theorem dX2_addVat_53 : decode cX2_addVat 53 = .ok (.getfield 20, 3) := by decide +kernel
theorem dX2_addVat_56 : decode cX2_addVat 56 = .ok (.dup_x1, 1) := by decide +kernel
theorem dX2_addVat_57 : decode cX2_addVat 57 = .ok (.iconst 1, 1) := by decide +kernel
theorem dX2_addVat_58 : decode cX2_addVat 58 = .ok (.iadd, 1) := by decide +kernel
theorem dX2_addVat_59 : decode cX2_addVat 59 = .ok (.putfield 20, 3) := by decide +kernel
theorem dX2_addVat_62 : decode cX2_addVat 62 = .ok (.ireturn, 1) := by decide +kernel
theorem dX2_beginRound_0 : decode cX2_beginRound 0 = .ok (.aload_n 0, 1) := by decide +kernel
theorem dX2_beginRound_1 : decode cX2_beginRound 1 = .ok (.getfield 30, 3) := by decide +kernel
theorem dX2_beginRound_4 : decode cX2_beginRound 4 = .ok (.ifCond .eq 13, 3) := by decide +kernel
theorem dX2_beginRound_7 : decode cX2_beginRound 7 = .ok (.new 58, 3) := by decide +kernel
theorem dX2_beginRound_10 : decode cX2_beginRound 10 = .ok (.dup, 1) := by decide +kernel
theorem dX2_beginRound_11 : decode cX2_beginRound 11 = .ok (.ldc 99, 2) := by decide +kernel
theorem dX2_beginRound_13 : decode cX2_beginRound 13 = .ok (.invokespecial 62, 3) := by decide +kernel
theorem dX2_beginRound_16 : decode cX2_beginRound 16 = .ok (.athrow, 1) := by decide +kernel
theorem dX2_beginRound_17 : decode cX2_beginRound 17 = .ok (.aload_n 0, 1) := by decide +kernel
theorem dX2_beginRound_18 : decode cX2_beginRound 18 = .ok (.iconst 1, 1) := by decide +kernel
theorem dX2_beginRound_19 : decode cX2_beginRound 19 = .ok (.putfield 30, 3) := by decide +kernel
theorem dX2_beginRound_22 : decode cX2_beginRound 22 = .ok (.iconst 0, 1) := by decide +kernel
theorem dX2_beginRound_23 : decode cX2_beginRound 23 = .ok (.istore_n 1, 1) := by decide +kernel
theorem dX2_beginRound_24 : decode cX2_beginRound 24 = .ok (.iload_n 1, 1) := by decide +kernel
theorem dX2_beginRound_25 : decode cX2_beginRound 25 = .ok (.bipush 6, 2) := by decide +kernel
theorem dX2_beginRound_27 : decode cX2_beginRound 27 = .ok (.if_icmp .ge 16, 3) := by decide +kernel
theorem dX2_beginRound_30 : decode cX2_beginRound 30 = .ok (.aload_n 0, 1) := by decide +kernel
theorem dX2_beginRound_31 : decode cX2_beginRound 31 = .ok (.getfield 34, 3) := by decide +kernel
theorem dX2_beginRound_34 : decode cX2_beginRound 34 = .ok (.iload_n 1, 1) := by decide +kernel
theorem dX2_beginRound_35 : decode cX2_beginRound 35 = .ok (.iconst 0, 1) := by decide +kernel
theorem dX2_beginRound_36 : decode cX2_beginRound 36 = .ok (.bastore, 1) := by decide +kernel
theorem dX2_beginRound_37 : decode cX2_beginRound 37 = .ok (.iinc 1 1, 3) := by decide +kernel
theorem dX2_beginRound_40 : decode cX2_beginRound 40 = .ok (.goto (-16), 3) := by decide +kernel
theorem dX2_beginRound_43 : decode cX2_beginRound 43 = .ok (.aload_n 0, 1) := by decide +kernel
theorem dX2_beginRound_44 : decode cX2_beginRound 44 = .ok (.dup, 1) := by decide +kernel
theorem dX2_beginRound_45 : decode cX2_beginRound 45 = .ok (.getfield 27, 3) := by decide +kernel
theorem dX2_beginRound_48 : decode cX2_beginRound 48 = .ok (.iconst 1, 1) := by decide +kernel
theorem dX2_beginRound_49 : decode cX2_beginRound 49 = .ok (.iadd, 1) := by decide +kernel
theorem dX2_beginRound_50 : decode cX2_beginRound 50 = .ok (.putfield 27, 3) := by decide +kernel
theorem dX2_beginRound_53 : decode cX2_beginRound 53 = .ok (.aload_n 0, 1) := by decide +kernel
theorem dX2_beginRound_54 : decode cX2_beginRound 54 = .ok (.getfield 27, 3) := by decide +kernel
theorem dX2_beginRound_57 : decode cX2_beginRound 57 = .ok (.ireturn, 1) := by decide +kernel
theorem dX2_visit_0 : decode cX2_visit 0 = .ok (.aload_n 0, 1) := by decide +kernel
theorem dX2_visit_1 : decode cX2_visit 1 = .ok (.iload_n 1, 1) := by decide +kernel
theorem dX2_visit_2 : decode cX2_visit 2 = .ok (.invokevirtual 67, 3) := by decide +kernel
theorem dX2_visit_5 : decode cX2_visit 5 = .ok (.aload_n 0, 1) := by decide +kernel
theorem dX2_visit_6 : decode cX2_visit 6 = .ok (.getfield 30, 3) := by decide +kernel
theorem dX2_visit_9 : decode cX2_visit 9 = .ok (.ifCond .ne 13, 3) := by decide +kernel
theorem dX2_visit_12 : decode cX2_visit 12 = .ok (.new 58, 3) := by decide +kernel
theorem dX2_visit_15 : decode cX2_visit 15 = .ok (.dup, 1) := by decide +kernel
theorem dX2_visit_16 : decode cX2_visit 16 = .ok (.ldc 101, 2) := by decide +kernel
theorem dX2_visit_18 : decode cX2_visit 18 = .ok (.invokespecial 62, 3) := by decide +kernel
theorem dX2_visit_21 : decode cX2_visit 21 = .ok (.athrow, 1) := by decide +kernel
theorem dX2_visit_22 : decode cX2_visit 22 = .ok (.aload_n 0, 1) := by decide +kernel
theorem dX2_visit_23 : decode cX2_visit 23 = .ok (.getfield 34, 3) := by decide +kernel
theorem dX2_visit_26 : decode cX2_visit 26 = .ok (.iload_n 1, 1) := by decide +kernel
theorem dX2_visit_27 : decode cX2_visit 27 = .ok (.baload, 1) := by decide +kernel
theorem dX2_visit_28 : decode cX2_visit 28 = .ok (.ifCond .eq 13, 3) := by decide +kernel
theorem dX2_visit_31 : decode cX2_visit 31 = .ok (.new 58, 3) := by decide +kernel
theorem dX2_visit_34 : decode cX2_visit 34 = .ok (.dup, 1) := by decide +kernel
theorem dX2_visit_35 : decode cX2_visit 35 = .ok (.ldc 103, 2) := by decide +kernel
theorem dX2_visit_37 : decode cX2_visit 37 = .ok (.invokespecial 62, 3) := by decide +kernel
theorem dX2_visit_40 : decode cX2_visit 40 = .ok (.athrow, 1) := by decide +kernel
theorem dX2_visit_41 : decode cX2_visit 41 = .ok (.aload_n 0, 1) := by decide +kernel
theorem dX2_visit_42 : decode cX2_visit 42 = .ok (.getfield 41, 3) := by decide +kernel
theorem dX2_visit_45 : decode cX2_visit 45 = .ok (.getfield 105, 3) := by decide +kernel
theorem dX2_visit_48 : decode cX2_visit 48 = .ok (.bipush 100, 2) := by decide +kernel
theorem dX2_visit_50 : decode cX2_visit 50 = .ok (.if_icmp .lt 13, 3) := by decide +kernel
theorem dX2_visit_53 : decode cX2_visit 53 = .ok (.new 58, 3) := by decide +kernel
theorem dX2_visit_56 : decode cX2_visit 56 = .ok (.dup, 1) := by decide +kernel
theorem dX2_visit_57 : decode cX2_visit 57 = .ok (.ldc 106, 2) := by decide +kernel
theorem dX2_visit_59 : decode cX2_visit 59 = .ok (.invokespecial 62, 3) := by decide +kernel
theorem dX2_visit_62 : decode cX2_visit 62 = .ok (.athrow, 1) := by decide +kernel
theorem dX2_visit_63 : decode cX2_visit 63 = .ok (.aload_n 0, 1) := by decide +kernel
theorem dX2_visit_64 : decode cX2_visit 64 = .ok (.getfield 16, 3) := by decide +kernel
theorem dX2_visit_67 : decode cX2_visit 67 = .ok (.iload_n 1, 1) := by decide +kernel
theorem dX2_visit_68 : decode cX2_visit 68 = .ok (.sipush 400, 3) := by decide +kernel
theorem dX2_visit_71 : decode cX2_visit 71 = .ok (.aload_n 0, 1) := by decide +kernel
theorem dX2_visit_72 : decode cX2_visit 72 = .ok (.invokevirtual 108, 3) := by decide +kernel
theorem dX2_visit_75 : decode cX2_visit 75 = .ok (.isub, 1) := by decide +kernel
theorem dX2_visit_76 : decode cX2_visit 76 = .ok (.invokevirtual 112, 3) := by decide +kernel
theorem dX2_visit_79 : decode cX2_visit 79 = .ok (.istore_n 2, 1) := by decide +kernel
theorem dX2_visit_80 : decode cX2_visit 80 = .ok (.aload_n 0, 1) := by decide +kernel
theorem dX2_visit_81 : decode cX2_visit 81 = .ok (.getfield 34, 3) := by decide +kernel
theorem dX2_visit_84 : decode cX2_visit 84 = .ok (.iload_n 1, 1) := by decide +kernel
theorem dX2_visit_85 : decode cX2_visit 85 = .ok (.iconst 1, 1) := by decide +kernel
theorem dX2_visit_86 : decode cX2_visit 86 = .ok (.bastore, 1) := by decide +kernel
theorem dX2_visit_87 : decode cX2_visit 87 = .ok (.iload_n 2, 1) := by decide +kernel
theorem dX2_visit_88 : decode cX2_visit 88 = .ok (.ifCond .le 12, 3) := by decide +kernel
theorem dX2_visit_91 : decode cX2_visit 91 = .ok (.aload_n 0, 1) := by decide +kernel
theorem dX2_visit_92 : decode cX2_visit 92 = .ok (.getfield 41, 3) := by decide +kernel
theorem dX2_visit_95 : decode cX2_visit 95 = .ok (.iload_n 1, 1) := by decide +kernel
theorem dX2_visit_96 : decode cX2_visit 96 = .ok (.iload_n 2, 1) := by decide +kernel
theorem dX2_visit_97 : decode cX2_visit 97 = .ok (.invokevirtual 115, 3) := by decide +kernel
theorem dX2_visit_100 : decode cX2_visit 100 = .ok (.iload_n 2, 1) := by decide +kernel
theorem dX2_visit_101 : decode cX2_visit 101 = .ok (.ireturn, 1) := by decide +kernel
theorem dX2_endRound_0 : decode cX2_endRound 0 = .ok (.aload_n 0, 1) := by decide +kernel
theorem dX2_endRound_1 : decode cX2_endRound 1 = .ok (.iload_n 1, 1) := by decide +kernel
theorem dX2_endRound_2 : decode cX2_endRound 2 = .ok (.invokevirtual 118, 3) := by decide +kernel
theorem dX2_endRound_5 : decode cX2_endRound 5 = .ok (.aload_n 0, 1) := by decide +kernel
theorem dX2_endRound_6 : decode cX2_endRound 6 = .ok (.getfield 30, 3) := by decide +kernel
theorem dX2_endRound_9 : decode cX2_endRound 9 = .ok (.ifCond .ne 13, 3) := by decide +kernel
theorem dX2_endRound_12 : decode cX2_endRound 12 = .ok (.new 58, 3) := by decide +kernel
theorem dX2_endRound_15 : decode cX2_endRound 15 = .ok (.dup, 1) := by decide +kernel
theorem dX2_endRound_16 : decode cX2_endRound 16 = .ok (.ldc 101, 2) := by decide +kernel
theorem dX2_endRound_18 : decode cX2_endRound 18 = .ok (.invokespecial 62, 3) := by decide +kernel
theorem dX2_endRound_21 : decode cX2_endRound 21 = .ok (.athrow, 1) := by decide +kernel
theorem dX2_endRound_22 : decode cX2_endRound 22 = .ok (.aload_n 0, 1) := by decide +kernel
theorem dX2_endRound_23 : decode cX2_endRound 23 = .ok (.invokevirtual 108, 3) := by decide +kernel
theorem dX2_endRound_26 : decode cX2_endRound 26 = .ok (.aload_n 0, 1) := by decide +kernel
theorem dX2_endRound_27 : decode cX2_endRound 27 = .ok (.iload_n 1, 1) := by decide +kernel
theorem dX2_endRound_28 : decode cX2_endRound 28 = .ok (.invokevirtual 121, 3) := by decide +kernel
theorem dX2_endRound_31 : decode cX2_endRound 31 = .ok (.if_icmp .le 13, 3) := by decide +kernel
theorem dX2_endRound_34 : decode cX2_endRound 34 = .ok (.new 124, 3) := by decide +kernel
theorem dX2_endRound_37 : decode cX2_endRound 37 = .ok (.dup, 1) := by decide +kernel
theorem dX2_endRound_38 : decode cX2_endRound 38 = .ok (.ldc 126, 2) := by decide +kernel
theorem dX2_endRound_40 : decode cX2_endRound 40 = .ok (.invokespecial 128, 3) := by decide +kernel
theorem dX2_endRound_43 : decode cX2_endRound 43 = .ok (.athrow, 1) := by decide +kernel
theorem dX2_endRound_44 : decode cX2_endRound 44 = .ok (.aload_n 0, 1) := by decide +kernel
theorem dX2_endRound_45 : decode cX2_endRound 45 = .ok (.getfield 41, 3) := by decide +kernel
theorem dX2_endRound_48 : decode cX2_endRound 48 = .ok (.bipush 116, 2) := by decide +kernel
theorem dX2_endRound_50 : decode cX2_endRound 50 = .ok (.iconst 0, 1) := by decide +kernel
theorem dX2_endRound_51 : decode cX2_endRound 51 = .ok (.invokevirtual 129, 3) := by decide +kernel
theorem dX2_endRound_54 : decode cX2_endRound 54 = .ok (.aload_n 0, 1) := by decide +kernel
theorem dX2_endRound_55 : decode cX2_endRound 55 = .ok (.getfield 41, 3) := by decide +kernel
theorem dX2_endRound_58 : decode cX2_endRound 58 = .ok (.bipush 118, 2) := by decide +kernel
theorem dX2_endRound_60 : decode cX2_endRound 60 = .ok (.iload_n 1, 1) := by decide +kernel
theorem dX2_endRound_61 : decode cX2_endRound 61 = .ok (.invokevirtual 129, 3) := by decide +kernel
theorem dX2_endRound_64 : decode cX2_endRound 64 = .ok (.iadd, 1) := by decide +kernel
theorem dX2_endRound_65 : decode cX2_endRound 65 = .ok (.bipush 60, 2) := by decide +kernel
theorem dX2_endRound_67 : decode cX2_endRound 67 = .ok (.if_icmp .le 13, 3) := by decide +kernel
theorem dX2_endRound_70 : decode cX2_endRound 70 = .ok (.new 124, 3) := by decide +kernel
theorem dX2_endRound_73 : decode cX2_endRound 73 = .ok (.dup, 1) := by decide +kernel
theorem dX2_endRound_74 : decode cX2_endRound 74 = .ok (.ldc 133, 2) := by decide +kernel
theorem dX2_endRound_76 : decode cX2_endRound 76 = .ok (.invokespecial 128, 3) := by decide +kernel
theorem dX2_endRound_79 : decode cX2_endRound 79 = .ok (.athrow, 1) := by decide +kernel
theorem dX2_endRound_80 : decode cX2_endRound 80 = .ok (.aload_n 0, 1) := by decide +kernel
theorem dX2_endRound_81 : decode cX2_endRound 81 = .ok (.getfield 41, 3) := by decide +kernel
theorem dX2_endRound_84 : decode cX2_endRound 84 = .ok (.bipush 116, 2) := by decide +kernel
theorem dX2_endRound_86 : decode cX2_endRound 86 = .ok (.iconst 0, 1) := by decide +kernel
theorem dX2_endRound_87 : decode cX2_endRound 87 = .ok (.bipush 118, 2) := by decide +kernel
theorem dX2_endRound_89 : decode cX2_endRound 89 = .ok (.iload_n 1, 1) := by decide +kernel
theorem dX2_endRound_90 : decode cX2_endRound 90 = .ok (.invokevirtual 135, 3) := by decide +kernel
theorem dX2_endRound_93 : decode cX2_endRound 93 = .ok (.aload_n 0, 1) := by decide +kernel
theorem dX2_endRound_94 : decode cX2_endRound 94 = .ok (.iconst 0, 1) := by decide +kernel
theorem dX2_endRound_95 : decode cX2_endRound 95 = .ok (.putfield 30, 3) := by decide +kernel
theorem dX2_endRound_98 : decode cX2_endRound 98 = .ok (.aload_n 0, 1) := by decide +kernel
theorem dX2_endRound_99 : decode cX2_endRound 99 = .ok (.iload_n 1, 1) := by decide +kernel
theorem dX2_endRound_100 : decode cX2_endRound 100 = .ok (.invokevirtual 139, 3) := by decide +kernel
theorem dX2_endRound_103 : decode cX2_endRound 103 = .ok (.ireturn, 1) := by decide +kernel
theorem dX2_inTanker_0 : decode cX2_inTanker 0 = .ok (.aload_n 0, 1) := by decide +kernel
theorem dX2_inTanker_1 : decode cX2_inTanker 1 = .ok (.getfield 41, 3) := by decide +kernel
theorem dX2_inTanker_4 : decode cX2_inTanker 4 = .ok (.bipush 116, 2) := by decide +kernel
theorem dX2_inTanker_6 : decode cX2_inTanker 6 = .ok (.iconst 0, 1) := by decide +kernel
theorem dX2_inTanker_7 : decode cX2_inTanker 7 = .ok (.invokevirtual 142, 3) := by decide +kernel
theorem dX2_inTanker_10 : decode cX2_inTanker 10 = .ok (.ireturn, 1) := by decide +kernel
theorem dX2_inVat_0 : decode cX2_inVat 0 = .ok (.aload_n 0, 1) := by decide +kernel
theorem dX2_inVat_1 : decode cX2_inVat 1 = .ok (.iload_n 1, 1) := by decide +kernel
theorem dX2_inVat_2 : decode cX2_inVat 2 = .ok (.invokevirtual 118, 3) := by decide +kernel
theorem dX2_inVat_5 : decode cX2_inVat 5 = .ok (.aload_n 0, 1) := by decide +kernel
theorem dX2_inVat_6 : decode cX2_inVat 6 = .ok (.getfield 41, 3) := by decide +kernel
theorem dX2_inVat_9 : decode cX2_inVat 9 = .ok (.bipush 118, 2) := by decide +kernel
theorem dX2_inVat_11 : decode cX2_inVat 11 = .ok (.iload_n 1, 1) := by decide +kernel
theorem dX2_inVat_12 : decode cX2_inVat 12 = .ok (.invokevirtual 142, 3) := by decide +kernel
theorem dX2_inVat_15 : decode cX2_inVat 15 = .ok (.ireturn, 1) := by decide +kernel
theorem dX2_bestVat_0 : decode cX2_bestVat 0 = .ok (.aload_n 0, 1) := by decide +kernel
theorem dX2_bestVat_1 : decode cX2_bestVat 1 = .ok (.invokevirtual 108, 3) := by decide +kernel
theorem dX2_bestVat_4 : decode cX2_bestVat 4 = .ok (.istore_n 1, 1) := by decide +kernel
theorem dX2_bestVat_5 : decode cX2_bestVat 5 = .ok (.iconst (-1), 1) := by decide +kernel
theorem dX2_bestVat_6 : decode cX2_bestVat 6 = .ok (.istore_n 2, 1) := by decide +kernel
theorem dX2_bestVat_7 : decode cX2_bestVat 7 = .ok (.iconst 0, 1) := by decide +kernel
theorem dX2_bestVat_8 : decode cX2_bestVat 8 = .ok (.istore_n 3, 1) := by decide +kernel
theorem dX2_bestVat_9 : decode cX2_bestVat 9 = .ok (.iconst 0, 1) := by decide +kernel
theorem dX2_bestVat_10 : decode cX2_bestVat 10 = .ok (.istore 4, 2) := by decide +kernel
theorem dX2_bestVat_12 : decode cX2_bestVat 12 = .ok (.iload 4, 2) := by decide +kernel
theorem dX2_bestVat_14 : decode cX2_bestVat 14 = .ok (.aload_n 0, 1) := by decide +kernel
theorem dX2_bestVat_15 : decode cX2_bestVat 15 = .ok (.getfield 20, 3) := by decide +kernel
theorem dX2_bestVat_18 : decode cX2_bestVat 18 = .ok (.if_icmp .ge 39, 3) := by decide +kernel
theorem dX2_bestVat_21 : decode cX2_bestVat 21 = .ok (.aload_n 0, 1) := by decide +kernel
theorem dX2_bestVat_22 : decode cX2_bestVat 22 = .ok (.iload 4, 2) := by decide +kernel
theorem dX2_bestVat_24 : decode cX2_bestVat 24 = .ok (.invokevirtual 121, 3) := by decide +kernel
theorem dX2_bestVat_27 : decode cX2_bestVat 27 = .ok (.istore 5, 2) := by decide +kernel
theorem dX2_bestVat_29 : decode cX2_bestVat 29 = .ok (.iload 5, 2) := by decide +kernel
theorem dX2_bestVat_31 : decode cX2_bestVat 31 = .ok (.iload_n 1, 1) := by decide +kernel
theorem dX2_bestVat_32 : decode cX2_bestVat 32 = .ok (.if_icmp .lt 19, 3) := by decide +kernel
theorem dX2_bestVat_35 : decode cX2_bestVat 35 = .ok (.iload_n 2, 1) := by decide +kernel
theorem dX2_bestVat_36 : decode cX2_bestVat 36 = .ok (.ifCond .lt 9, 3) := by decide +kernel
theorem dX2_bestVat_39 : decode cX2_bestVat 39 = .ok (.iload 5, 2) := by decide +kernel
theorem dX2_bestVat_41 : decode cX2_bestVat 41 = .ok (.iload_n 3, 1) := by decide +kernel
theorem dX2_bestVat_42 : decode cX2_bestVat 42 = .ok (.if_icmp .ge 9, 3) := by decide +kernel
theorem dX2_bestVat_45 : decode cX2_bestVat 45 = .ok (.iload 4, 2) := by decide +kernel
theorem dX2_bestVat_47 : decode cX2_bestVat 47 = .ok (.istore_n 2, 1) := by decide +kernel
theorem dX2_bestVat_48 : decode cX2_bestVat 48 = .ok (.iload 5, 2) := by decide +kernel
theorem dX2_bestVat_50 : decode cX2_bestVat 50 = .ok (.istore_n 3, 1) := by decide +kernel
theorem dX2_bestVat_51 : decode cX2_bestVat 51 = .ok (.iinc 4 1, 3) := by decide +kernel
theorem dX2_bestVat_54 : decode cX2_bestVat 54 = .ok (.goto (-42), 3) := by decide +kernel
theorem dX2_bestVat_57 : decode cX2_bestVat 57 = .ok (.iload_n 2, 1) := by decide +kernel
theorem dX2_bestVat_58 : decode cX2_bestVat 58 = .ok (.ifCond .ge 13, 3) := by decide +kernel
theorem dX2_bestVat_61 : decode cX2_bestVat 61 = .ok (.new 145, 3) := by decide +kernel
theorem dX2_bestVat_64 : decode cX2_bestVat 64 = .ok (.dup, 1) := by decide +kernel
theorem dX2_bestVat_65 : decode cX2_bestVat 65 = .ok (.ldc 147, 2) := by decide +kernel
theorem dX2_bestVat_67 : decode cX2_bestVat 67 = .ok (.invokespecial 149, 3) := by decide +kernel
theorem dX2_bestVat_70 : decode cX2_bestVat 70 = .ok (.athrow, 1) := by decide +kernel
theorem dX2_bestVat_71 : decode cX2_bestVat 71 = .ok (.iload_n 2, 1) := by decide +kernel
theorem dX2_bestVat_72 : decode cX2_bestVat 72 = .ok (.ireturn, 1) := by decide +kernel
theorem dX2_close_0 : decode cX2_close 0 = .ok (.aload_n 0, 1) := by decide +kernel
theorem dX2_close_1 : decode cX2_close 1 = .ok (.iload_n 1, 1) := by decide +kernel
theorem dX2_close_2 : decode cX2_close 2 = .ok (.invokevirtual 118, 3) := by decide +kernel
theorem dX2_close_5 : decode cX2_close 5 = .ok (.aload_n 0, 1) := by decide +kernel
theorem dX2_close_6 : decode cX2_close 6 = .ok (.iload_n 1, 1) := by decide +kernel
theorem dX2_close_7 : decode cX2_close 7 = .ok (.invokevirtual 139, 3) := by decide +kernel
theorem dX2_close_10 : decode cX2_close 10 = .ok (.ifCond .ne 13, 3) := by decide +kernel
theorem dX2_close_13 : decode cX2_close 13 = .ok (.new 124, 3) := by decide +kernel
theorem dX2_close_16 : decode cX2_close 16 = .ok (.dup, 1) := by decide +kernel
theorem dX2_close_17 : decode cX2_close 17 = .ok (.ldc 150, 2) := by decide +kernel
theorem dX2_close_19 : decode cX2_close 19 = .ok (.invokespecial 128, 3) := by decide +kernel
theorem dX2_close_22 : decode cX2_close 22 = .ok (.athrow, 1) := by decide +kernel
theorem dX2_close_23 : decode cX2_close 23 = .ok (.aload_n 0, 1) := by decide +kernel
theorem dX2_close_24 : decode cX2_close 24 = .ok (.getfield 45, 3) := by decide +kernel
theorem dX2_close_27 : decode cX2_close 27 = .ok (.bipush 20, 2) := by decide +kernel
theorem dX2_close_29 : decode cX2_close 29 = .ok (.if_icmp .lt 13, 3) := by decide +kernel
theorem dX2_close_32 : decode cX2_close 32 = .ok (.new 58, 3) := by decide +kernel
theorem dX2_close_35 : decode cX2_close 35 = .ok (.dup, 1) := by decide +kernel
theorem dX2_close_36 : decode cX2_close 36 = .ok (.ldc 152, 2) := by decide +kernel
theorem dX2_close_38 : decode cX2_close 38 = .ok (.invokespecial 62, 3) := by decide +kernel
theorem dX2_close_41 : decode cX2_close 41 = .ok (.athrow, 1) := by decide +kernel
theorem dX2_close_42 : decode cX2_close 42 = .ok (.aload_n 0, 1) := by decide +kernel
theorem dX2_close_43 : decode cX2_close 43 = .ok (.getfield 45, 3) := by decide +kernel
theorem dX2_close_46 : decode cX2_close 46 = .ok (.istore_n 2, 1) := by decide +kernel
theorem dX2_close_47 : decode cX2_close 47 = .ok (.aload_n 0, 1) := by decide +kernel
theorem dX2_close_48 : decode cX2_close 48 = .ok (.dup, 1) := by decide +kernel
theorem dX2_close_49 : decode cX2_close 49 = .ok (.getfield 45, 3) := by decide +kernel
theorem dX2_close_52 : decode cX2_close 52 = .ok (.iconst 1, 1) := by decide +kernel
theorem dX2_close_53 : decode cX2_close 53 = .ok (.iadd, 1) := by decide +kernel
theorem dX2_close_54 : decode cX2_close 54 = .ok (.putfield 45, 3) := by decide +kernel
theorem dX2_close_57 : decode cX2_close 57 = .ok (.aload_n 0, 1) := by decide +kernel
theorem dX2_close_58 : decode cX2_close 58 = .ok (.getfield 41, 3) := by decide +kernel
theorem dX2_close_61 : decode cX2_close 61 = .ok (.bipush 118, 2) := by decide +kernel
theorem dX2_close_63 : decode cX2_close 63 = .ok (.iload_n 1, 1) := by decide +kernel
theorem dX2_close_64 : decode cX2_close 64 = .ok (.bipush 98, 2) := by decide +kernel
theorem dX2_close_66 : decode cX2_close 66 = .ok (.iload_n 2, 1) := by decide +kernel
theorem dX2_close_67 : decode cX2_close 67 = .ok (.invokevirtual 135, 3) := by decide +kernel
theorem dX2_close_70 : decode cX2_close 70 = .ok (.aload_n 0, 1) := by decide +kernel
theorem dX2_close_71 : decode cX2_close 71 = .ok (.getfield 41, 3) := by decide +kernel
theorem dX2_close_74 : decode cX2_close 74 = .ok (.iload_n 2, 1) := by decide +kernel
theorem dX2_close_75 : decode cX2_close 75 = .ok (.invokevirtual 154, 3) := by decide +kernel
theorem dX2_close_78 : decode cX2_close 78 = .ok (.iload_n 2, 1) := by decide +kernel
theorem dX2_close_79 : decode cX2_close 79 = .ok (.ireturn, 1) := by decide +kernel
theorem dX2_samples_0 : decode cX2_samples 0 = .ok (.aload_n 0, 1) := by decide +kernel
theorem dX2_samples_1 : decode cX2_samples 1 = .ok (.getfield 41, 3) := by decide +kernel
theorem dX2_samples_4 : decode cX2_samples 4 = .ok (.getfield 105, 3) := by decide +kernel
theorem dX2_samples_7 : decode cX2_samples 7 = .ok (.ireturn, 1) := by decide +kernel
theorem dX2_farmOf_0 : decode cX2_farmOf 0 = .ok (.aload_n 0, 1) := by decide +kernel
theorem dX2_farmOf_1 : decode cX2_farmOf 1 = .ok (.iload_n 1, 1) := by decide +kernel
theorem dX2_farmOf_2 : decode cX2_farmOf 2 = .ok (.invokevirtual 157, 3) := by decide +kernel
theorem dX2_farmOf_5 : decode cX2_farmOf 5 = .ok (.aload_n 0, 1) := by decide +kernel
theorem dX2_farmOf_6 : decode cX2_farmOf 6 = .ok (.getfield 41, 3) := by decide +kernel
theorem dX2_farmOf_9 : decode cX2_farmOf 9 = .ok (.getfield 160, 3) := by decide +kernel
theorem dX2_farmOf_12 : decode cX2_farmOf 12 = .ok (.iload_n 1, 1) := by decide +kernel
theorem dX2_farmOf_13 : decode cX2_farmOf 13 = .ok (.iaload, 1) := by decide +kernel
theorem dX2_farmOf_14 : decode cX2_farmOf 14 = .ok (.ireturn, 1) := by decide +kernel
theorem dX2_litres_0 : decode cX2_litres 0 = .ok (.aload_n 0, 1) := by decide +kernel
theorem dX2_litres_1 : decode cX2_litres 1 = .ok (.iload_n 1, 1) := by decide +kernel
theorem dX2_litres_2 : decode cX2_litres 2 = .ok (.invokevirtual 157, 3) := by decide +kernel
theorem dX2_litres_5 : decode cX2_litres 5 = .ok (.aload_n 0, 1) := by decide +kernel
theorem dX2_litres_6 : decode cX2_litres 6 = .ok (.getfield 41, 3) := by decide +kernel
theorem dX2_litres_9 : decode cX2_litres 9 = .ok (.getfield 163, 3) := by decide +kernel
theorem dX2_litres_12 : decode cX2_litres 12 = .ok (.iload_n 1, 1) := by decide +kernel
theorem dX2_litres_13 : decode cX2_litres 13 = .ok (.iaload, 1) := by decide +kernel
theorem dX2_litres_14 : decode cX2_litres 14 = .ok (.ireturn, 1) := by decide +kernel
theorem dX2_grade_0 : decode cX2_grade 0 = .ok (.aload_n 0, 1) := by decide +kernel
theorem dX2_grade_1 : decode cX2_grade 1 = .ok (.iload_n 1, 1) := by decide +kernel
theorem dX2_grade_2 : decode cX2_grade 2 = .ok (.invokevirtual 157, 3) := by decide +kernel
theorem dX2_grade_5 : decode cX2_grade 5 = .ok (.iload_n 2, 1) := by decide +kernel
theorem dX2_grade_6 : decode cX2_grade 6 = .ok (.bipush 97, 2) := by decide +kernel
theorem dX2_grade_8 : decode cX2_grade 8 = .ok (.if_icmp .eq 31, 3) := by decide +kernel
theorem dX2_grade_11 : decode cX2_grade 11 = .ok (.iload_n 2, 1) := by decide +kernel
theorem dX2_grade_12 : decode cX2_grade 12 = .ok (.bipush 98, 2) := by decide +kernel
theorem dX2_grade_14 : decode cX2_grade 14 = .ok (.if_icmp .eq 25, 3) := by decide +kernel
theorem dX2_grade_17 : decode cX2_grade 17 = .ok (.iload_n 2, 1) := by decide +kernel
theorem dX2_grade_18 : decode cX2_grade 18 = .ok (.bipush 99, 2) := by decide +kernel
theorem dX2_grade_20 : decode cX2_grade 20 = .ok (.if_icmp .eq 19, 3) := by decide +kernel
theorem dX2_grade_23 : decode cX2_grade 23 = .ok (.iload_n 2, 1) := by decide +kernel
theorem dX2_grade_24 : decode cX2_grade 24 = .ok (.bipush 120, 2) := by decide +kernel
theorem dX2_grade_26 : decode cX2_grade 26 = .ok (.if_icmp .eq 13, 3) := by decide +kernel
theorem dX2_grade_29 : decode cX2_grade 29 = .ok (.new 48, 3) := by decide +kernel
theorem dX2_grade_32 : decode cX2_grade 32 = .ok (.dup, 1) := by decide +kernel
theorem dX2_grade_33 : decode cX2_grade 33 = .ok (.ldc 166, 2) := by decide +kernel
theorem dX2_grade_35 : decode cX2_grade 35 = .ok (.invokespecial 52, 3) := by decide +kernel
theorem dX2_grade_38 : decode cX2_grade 38 = .ok (.athrow, 1) := by decide +kernel
theorem dX2_grade_39 : decode cX2_grade 39 = .ok (.aload_n 0, 1) := by decide +kernel
theorem dX2_grade_40 : decode cX2_grade 40 = .ok (.getfield 41, 3) := by decide +kernel
theorem dX2_grade_43 : decode cX2_grade 43 = .ok (.getfield 168, 3) := by decide +kernel
theorem dX2_grade_46 : decode cX2_grade 46 = .ok (.iload_n 1, 1) := by decide +kernel
theorem dX2_grade_47 : decode cX2_grade 47 = .ok (.caload, 1) := by decide +kernel
theorem dX2_grade_48 : decode cX2_grade 48 = .ok (.bipush 45, 2) := by decide +kernel
theorem dX2_grade_50 : decode cX2_grade 50 = .ok (.if_icmp .eq 13, 3) := by decide +kernel
theorem dX2_grade_53 : decode cX2_grade 53 = .ok (.new 58, 3) := by decide +kernel
theorem dX2_grade_56 : decode cX2_grade 56 = .ok (.dup, 1) := by decide +kernel
theorem dX2_grade_57 : decode cX2_grade 57 = .ok (.ldc 172, 2) := by decide +kernel
theorem dX2_grade_59 : decode cX2_grade 59 = .ok (.invokespecial 62, 3) := by decide +kernel
theorem dX2_grade_62 : decode cX2_grade 62 = .ok (.athrow, 1) := by decide +kernel
theorem dX2_grade_63 : decode cX2_grade 63 = .ok (.aload_n 0, 1) := by decide +kernel
theorem dX2_grade_64 : decode cX2_grade 64 = .ok (.getfield 41, 3) := by decide +kernel
theorem dX2_grade_67 : decode cX2_grade 67 = .ok (.getfield 168, 3) := by decide +kernel
theorem dX2_grade_70 : decode cX2_grade 70 = .ok (.iload_n 1, 1) := by decide +kernel
theorem dX2_grade_71 : decode cX2_grade 71 = .ok (.iload_n 2, 1) := by decide +kernel
theorem dX2_grade_72 : decode cX2_grade 72 = .ok (.castore, 1) := by decide +kernel
theorem dX2_grade_73 : decode cX2_grade 73 = .ok (.aload_n 0, 1) := by decide +kernel
theorem dX2_grade_74 : decode cX2_grade 74 = .ok (.getfield 41, 3) := by decide +kernel
theorem dX2_grade_77 : decode cX2_grade 77 = .ok (.getfield 174, 3) := by decide +kernel
theorem dX2_grade_80 : decode cX2_grade 80 = .ok (.iload_n 1, 1) := by decide +kernel
theorem dX2_grade_81 : decode cX2_grade 81 = .ok (.caload, 1) := by decide +kernel
theorem dX2_grade_82 : decode cX2_grade 82 = .ok (.bipush 98, 2) := by decide +kernel
theorem dX2_grade_84 : decode cX2_grade 84 = .ok (.if_icmp .ne 19, 3) := by decide +kernel
theorem dX2_grade_87 : decode cX2_grade 87 = .ok (.aload_n 0, 1) := by decide +kernel
theorem dX2_grade_88 : decode cX2_grade 88 = .ok (.getfield 41, 3) := by decide +kernel
theorem dX2_grade_91 : decode cX2_grade 91 = .ok (.aload_n 0, 1) := by decide +kernel
theorem dX2_grade_92 : decode cX2_grade 92 = .ok (.getfield 41, 3) := by decide +kernel
theorem dX2_grade_95 : decode cX2_grade 95 = .ok (.getfield 177, 3) := by decide +kernel
theorem dX2_grade_98 : decode cX2_grade 98 = .ok (.iload_n 1, 1) := by decide +kernel
theorem dX2_grade_99 : decode cX2_grade 99 = .ok (.iaload, 1) := by decide +kernel
theorem dX2_grade_100 : decode cX2_grade 100 = .ok (.invokevirtual 154, 3) := by decide +kernel
theorem dX2_grade_103 : decode cX2_grade 103 = .ok (.aload_n 0, 1) := by decide +kernel
theorem dX2_grade_104 : decode cX2_grade 104 = .ok (.getfield 41, 3) := by decide +kernel
theorem dX2_grade_107 : decode cX2_grade 107 = .ok (.invokevirtual 180, 3) := by decide +kernel
theorem dX2_grade_110 : decode cX2_grade 110 = .ok (.ireturn, 1) := by decide +kernel
theorem dX2_gradeOf_0 : decode cX2_gradeOf 0 = .ok (.aload_n 0, 1) := by decide +kernel
theorem dX2_gradeOf_1 : decode cX2_gradeOf 1 = .ok (.iload_n 1, 1) := by decide +kernel
theorem dX2_gradeOf_2 : decode cX2_gradeOf 2 = .ok (.invokevirtual 157, 3) := by decide +kernel
theorem dX2_gradeOf_5 : decode cX2_gradeOf 5 = .ok (.aload_n 0, 1) := by decide +kernel
theorem dX2_gradeOf_6 : decode cX2_gradeOf 6 = .ok (.getfield 41, 3) := by decide +kernel
theorem dX2_gradeOf_9 : decode cX2_gradeOf 9 = .ok (.getfield 168, 3) := by decide +kernel
theorem dX2_gradeOf_12 : decode cX2_gradeOf 12 = .ok (.iload_n 1, 1) := by decide +kernel
theorem dX2_gradeOf_13 : decode cX2_gradeOf 13 = .ok (.caload, 1) := by decide +kernel
theorem dX2_gradeOf_14 : decode cX2_gradeOf 14 = .ok (.ireturn, 1) := by decide +kernel
theorem dX2_batches_0 : decode cX2_batches 0 = .ok (.aload_n 0, 1) := by decide +kernel
theorem dX2_batches_1 : decode cX2_batches 1 = .ok (.getfield 45, 3) := by decide +kernel
theorem dX2_batches_4 : decode cX2_batches 4 = .ok (.ireturn, 1) := by decide +kernel
theorem dX2_stateOf_0 : decode cX2_stateOf 0 = .ok (.aload_n 0, 1) := by decide +kernel
theorem dX2_stateOf_1 : decode cX2_stateOf 1 = .ok (.iload_n 1, 1) := by decide +kernel
theorem dX2_stateOf_2 : decode cX2_stateOf 2 = .ok (.invokevirtual 183, 3) := by decide +kernel
theorem dX2_stateOf_5 : decode cX2_stateOf 5 = .ok (.aload_n 0, 1) := by decide +kernel
theorem dX2_stateOf_6 : decode cX2_stateOf 6 = .ok (.getfield 41, 3) := by decide +kernel
theorem dX2_stateOf_9 : decode cX2_stateOf 9 = .ok (.iload_n 1, 1) := by decide +kernel
theorem dX2_stateOf_10 : decode cX2_stateOf 10 = .ok (.invokevirtual 186, 3) := by decide +kernel
theorem dX2_stateOf_13 : decode cX2_stateOf 13 = .ok (.ifCond .eq 6, 3) := by decide +kernel
theorem dX2_stateOf_16 : decode cX2_stateOf 16 = .ok (.bipush 120, 2) := by decide +kernel
theorem dX2_stateOf_18 : decode cX2_stateOf 18 = .ok (.ireturn, 1) := by decide +kernel
theorem dX2_stateOf_19 : decode cX2_stateOf 19 = .ok (.aload_n 0, 1) := by decide +kernel
theorem dX2_stateOf_20 : decode cX2_stateOf 20 = .ok (.getfield 41, 3) := by decide +kernel
theorem dX2_stateOf_23 : decode cX2_stateOf 23 = .ok (.iload_n 1, 1) := by decide +kernel
theorem dX2_stateOf_24 : decode cX2_stateOf 24 = .ok (.invokevirtual 190, 3) := by decide +kernel
theorem dX2_stateOf_27 : decode cX2_stateOf 27 = .ok (.ifCond .eq 8, 3) := by decide +kernel
theorem dX2_stateOf_30 : decode cX2_stateOf 30 = .ok (.bipush 103, 2) := by decide +kernel
theorem dX2_stateOf_32 : decode cX2_stateOf 32 = .ok (.goto 5, 3) := by decide +kernel
theorem dX2_stateOf_35 : decode cX2_stateOf 35 = .ok (.bipush 119, 2) := by decide +kernel
theorem dX2_stateOf_37 : decode cX2_stateOf 37 = .ok (.ireturn, 1) := by decide +kernel
theorem dX2_share_0 : decode cX2_share 0 = .ok (.aload_n 0, 1) := by decide +kernel
theorem dX2_share_1 : decode cX2_share 1 = .ok (.iload_n 1, 1) := by decide +kernel
theorem dX2_share_2 : decode cX2_share 2 = .ok (.invokevirtual 183, 3) := by decide +kernel
theorem dX2_share_5 : decode cX2_share 5 = .ok (.aload_n 0, 1) := by decide +kernel
theorem dX2_share_6 : decode cX2_share 6 = .ok (.getfield 41, 3) := by decide +kernel
theorem dX2_share_9 : decode cX2_share 9 = .ok (.iload_n 1, 1) := by decide +kernel
theorem dX2_share_10 : decode cX2_share 10 = .ok (.iload_n 2, 1) := by decide +kernel
theorem dX2_share_11 : decode cX2_share 11 = .ok (.invokevirtual 193, 3) := by decide +kernel
theorem dX2_share_14 : decode cX2_share 14 = .ok (.istore_n 3, 1) := by decide +kernel
theorem dX2_share_15 : decode cX2_share 15 = .ok (.iload_n 3, 1) := by decide +kernel
theorem dX2_share_16 : decode cX2_share 16 = .ok (.ifCond .ge 13, 3) := by decide +kernel
theorem dX2_share_19 : decode cX2_share 19 = .ok (.new 145, 3) := by decide +kernel
theorem dX2_share_22 : decode cX2_share 22 = .ok (.dup, 1) := by decide +kernel
theorem dX2_share_23 : decode cX2_share 23 = .ok (.ldc 196, 2) := by decide +kernel
theorem dX2_share_25 : decode cX2_share 25 = .ok (.invokespecial 149, 3) := by decide +kernel
theorem dX2_share_28 : decode cX2_share 28 = .ok (.athrow, 1) := by decide +kernel
theorem dX2_share_29 : decode cX2_share 29 = .ok (.iload_n 3, 1) := by decide +kernel
theorem dX2_share_30 : decode cX2_share 30 = .ok (.ireturn, 1) := by decide +kernel
theorem dX2_worth_0 : decode cX2_worth 0 = .ok (.aload_n 0, 1) := by decide +kernel
theorem dX2_worth_1 : decode cX2_worth 1 = .ok (.iload_n 1, 1) := by decide +kernel
theorem dX2_worth_2 : decode cX2_worth 2 = .ok (.invokevirtual 198, 3) := by decide +kernel
theorem dX2_worth_5 : decode cX2_worth 5 = .ok (.aload_n 0, 1) := by decide +kernel
theorem dX2_worth_6 : decode cX2_worth 6 = .ok (.getfield 41, 3) := by decide +kernel
theorem dX2_worth_9 : decode cX2_worth 9 = .ok (.iload_n 1, 1) := by decide +kernel
theorem dX2_worth_10 : decode cX2_worth 10 = .ok (.invokevirtual 201, 3) := by decide +kernel
theorem dX2_worth_13 : decode cX2_worth 13 = .ok (.ireturn, 1) := by decide +kernel
theorem dX2_loss_0 : decode cX2_loss 0 = .ok (.aload_n 0, 1) := by decide +kernel
theorem dX2_loss_1 : decode cX2_loss 1 = .ok (.iload_n 1, 1) := by decide +kernel
theorem dX2_loss_2 : decode cX2_loss 2 = .ok (.invokevirtual 198, 3) := by decide +kernel
theorem dX2_loss_5 : decode cX2_loss 5 = .ok (.aload_n 0, 1) := by decide +kernel
theorem dX2_loss_6 : decode cX2_loss 6 = .ok (.getfield 41, 3) := by decide +kernel
theorem dX2_loss_9 : decode cX2_loss 9 = .ok (.iload_n 1, 1) := by decide +kernel
theorem dX2_loss_10 : decode cX2_loss 10 = .ok (.invokevirtual 204, 3) := by decide +kernel
theorem dX2_loss_13 : decode cX2_loss 13 = .ok (.ireturn, 1) := by decide +kernel
theorem dX2_pay_0 : decode cX2_pay 0 = .ok (.aload_n 0, 1) := by decide +kernel
theorem dX2_pay_1 : decode cX2_pay 1 = .ok (.iload_n 1, 1) := by decide +kernel
theorem dX2_pay_2 : decode cX2_pay 2 = .ok (.invokevirtual 67, 3) := by decide +kernel
theorem dX2_pay_5 : decode cX2_pay 5 = .ok (.lconst 0, 1) := by decide +kernel
theorem dX2_pay_6 : decode cX2_pay 6 = .ok (.lstore_n 2, 1) := by decide +kernel
theorem dX2_pay_7 : decode cX2_pay 7 = .ok (.iconst 0, 1) := by decide +kernel
theorem dX2_pay_8 : decode cX2_pay 8 = .ok (.istore 4, 2) := by decide +kernel
theorem dX2_pay_10 : decode cX2_pay 10 = .ok (.iload 4, 2) := by decide +kernel
theorem dX2_pay_12 : decode cX2_pay 12 = .ok (.aload_n 0, 1) := by decide +kernel
theorem dX2_pay_13 : decode cX2_pay 13 = .ok (.getfield 45, 3) := by decide +kernel
theorem dX2_pay_16 : decode cX2_pay 16 = .ok (.if_icmp .ge 23, 3) := by decide +kernel
theorem dX2_pay_19 : decode cX2_pay 19 = .ok (.lload_n 2, 1) := by decide +kernel
theorem dX2_pay_20 : decode cX2_pay 20 = .ok (.aload_n 0, 1) := by decide +kernel
theorem dX2_pay_21 : decode cX2_pay 21 = .ok (.getfield 41, 3) := by decide +kernel
theorem dX2_pay_24 : decode cX2_pay 24 = .ok (.iload_n 1, 1) := by decide +kernel
theorem dX2_pay_25 : decode cX2_pay 25 = .ok (.iload 4, 2) := by decide +kernel
theorem dX2_pay_27 : decode cX2_pay 27 = .ok (.invokevirtual 207, 3) := by decide +kernel
theorem dX2_pay_30 : decode cX2_pay 30 = .ok (.i2l, 1) := by decide +kernel
theorem dX2_pay_31 : decode cX2_pay 31 = .ok (.ladd, 1) := by decide +kernel
theorem dX2_pay_32 : decode cX2_pay 32 = .ok (.lstore_n 2, 1) := by decide +kernel
theorem dX2_pay_33 : decode cX2_pay 33 = .ok (.iinc 4 1, 3) := by decide +kernel
theorem dX2_pay_36 : decode cX2_pay 36 = .ok (.goto (-26), 3) := by decide +kernel
theorem dX2_pay_39 : decode cX2_pay 39 = .ok (.lload_n 2, 1) := by decide +kernel
theorem dX2_pay_40 : decode cX2_pay 40 = .ok (.lreturn, 1) := by decide +kernel
theorem dX2_blame_0 : decode cX2_blame 0 = .ok (.aload_n 0, 1) := by decide +kernel
theorem dX2_blame_1 : decode cX2_blame 1 = .ok (.iload_n 1, 1) := by decide +kernel
theorem dX2_blame_2 : decode cX2_blame 2 = .ok (.invokevirtual 67, 3) := by decide +kernel
theorem dX2_blame_5 : decode cX2_blame 5 = .ok (.lconst 0, 1) := by decide +kernel
theorem dX2_blame_6 : decode cX2_blame 6 = .ok (.lstore_n 2, 1) := by decide +kernel
theorem dX2_blame_7 : decode cX2_blame 7 = .ok (.iconst 0, 1) := by decide +kernel
theorem dX2_blame_8 : decode cX2_blame 8 = .ok (.istore 4, 2) := by decide +kernel
theorem dX2_blame_10 : decode cX2_blame 10 = .ok (.iload 4, 2) := by decide +kernel
theorem dX2_blame_12 : decode cX2_blame 12 = .ok (.aload_n 0, 1) := by decide +kernel
theorem dX2_blame_13 : decode cX2_blame 13 = .ok (.getfield 45, 3) := by decide +kernel
theorem dX2_blame_16 : decode cX2_blame 16 = .ok (.if_icmp .ge 23, 3) := by decide +kernel
theorem dX2_blame_19 : decode cX2_blame 19 = .ok (.lload_n 2, 1) := by decide +kernel
theorem dX2_blame_20 : decode cX2_blame 20 = .ok (.aload_n 0, 1) := by decide +kernel
theorem dX2_blame_21 : decode cX2_blame 21 = .ok (.getfield 41, 3) := by decide +kernel
theorem dX2_blame_24 : decode cX2_blame 24 = .ok (.iload_n 1, 1) := by decide +kernel
theorem dX2_blame_25 : decode cX2_blame 25 = .ok (.iload 4, 2) := by decide +kernel
theorem dX2_blame_27 : decode cX2_blame 27 = .ok (.invokevirtual 210, 3) := by decide +kernel
theorem dX2_blame_30 : decode cX2_blame 30 = .ok (.i2l, 1) := by decide +kernel
theorem dX2_blame_31 : decode cX2_blame 31 = .ok (.ladd, 1) := by decide +kernel
theorem dX2_blame_32 : decode cX2_blame 32 = .ok (.lstore_n 2, 1) := by decide +kernel
theorem dX2_blame_33 : decode cX2_blame 33 = .ok (.iinc 4 1, 3) := by decide +kernel
theorem dX2_blame_36 : decode cX2_blame 36 = .ok (.goto (-26), 3) := by decide +kernel
theorem dX2_blame_39 : decode cX2_blame 39 = .ok (.lload_n 2, 1) := by decide +kernel
theorem dX2_blame_40 : decode cX2_blame 40 = .ok (.lreturn, 1) := by decide +kernel
theorem dX2_balanceBySamples_0 : decode cX2_balanceBySamples 0 = .ok (.aload_n 0, 1) := by decide +kernel
theorem dX2_balanceBySamples_1 : decode cX2_balanceBySamples 1 = .ok (.iload_n 1, 1) := by decide +kernel
theorem dX2_balanceBySamples_2 : decode cX2_balanceBySamples 2 = .ok (.invokevirtual 67, 3) := by decide +kernel
theorem dX2_balanceBySamples_5 : decode cX2_balanceBySamples 5 = .ok (.aload_n 0, 1) := by decide +kernel
theorem dX2_balanceBySamples_6 : decode cX2_balanceBySamples 6 = .ok (.getfield 41, 3) := by decide +kernel
theorem dX2_balanceBySamples_9 : decode cX2_balanceBySamples 9 = .ok (.iload_n 1, 1) := by decide +kernel
theorem dX2_balanceBySamples_10 : decode cX2_balanceBySamples 10 = .ok (.invokevirtual 213, 3) := by decide +kernel
theorem dX2_balanceBySamples_13 : decode cX2_balanceBySamples 13 = .ok (.lreturn, 1) := by decide +kernel
theorem dX2_wayOf_0 : decode cX2_wayOf 0 = .ok (.aload_n 0, 1) := by decide +kernel
theorem dX2_wayOf_1 : decode cX2_wayOf 1 = .ok (.iload_n 1, 1) := by decide +kernel
theorem dX2_wayOf_2 : decode cX2_wayOf 2 = .ok (.invokevirtual 157, 3) := by decide +kernel
theorem dX2_wayOf_5 : decode cX2_wayOf 5 = .ok (.aload_n 0, 1) := by decide +kernel
theorem dX2_wayOf_6 : decode cX2_wayOf 6 = .ok (.getfield 41, 3) := by decide +kernel
theorem dX2_wayOf_9 : decode cX2_wayOf 9 = .ok (.getfield 174, 3) := by decide +kernel
theorem dX2_wayOf_12 : decode cX2_wayOf 12 = .ok (.iload_n 1, 1) := by decide +kernel
theorem dX2_wayOf_13 : decode cX2_wayOf 13 = .ok (.caload, 1) := by decide +kernel
theorem dX2_wayOf_14 : decode cX2_wayOf 14 = .ok (.ireturn, 1) := by decide +kernel
theorem dX2_spoiltShare_0 : decode cX2_spoiltShare 0 = .ok (.aload_n 0, 1) := by decide +kernel
theorem dX2_spoiltShare_1 : decode cX2_spoiltShare 1 = .ok (.getfield 41, 3) := by decide +kernel
theorem dX2_spoiltShare_4 : decode cX2_spoiltShare 4 = .ok (.invokevirtual 217, 3) := by decide +kernel
theorem dX2_spoiltShare_7 : decode cX2_spoiltShare 7 = .ok (.istore_n 1, 1) := by decide +kernel
theorem dX2_spoiltShare_8 : decode cX2_spoiltShare 8 = .ok (.iload_n 1, 1) := by decide +kernel
theorem dX2_spoiltShare_9 : decode cX2_spoiltShare 9 = .ok (.ifCond .gt 13, 3) := by decide +kernel
theorem dX2_spoiltShare_12 : decode cX2_spoiltShare 12 = .ok (.new 220, 3) := by decide +kernel
theorem dX2_spoiltShare_15 : decode cX2_spoiltShare 15 = .ok (.dup, 1) := by decide +kernel
theorem dX2_spoiltShare_16 : decode cX2_spoiltShare 16 = .ok (.ldc 222, 2) := by decide +kernel
theorem dX2_spoiltShare_18 : decode cX2_spoiltShare 18 = .ok (.invokespecial 224, 3) := by decide +kernel
theorem dX2_spoiltShare_21 : decode cX2_spoiltShare 21 = .ok (.athrow, 1) := by decide +kernel
theorem dX2_spoiltShare_22 : decode cX2_spoiltShare 22 = .ok (.iconst 0, 1) := by decide +kernel
theorem dX2_spoiltShare_23 : decode cX2_spoiltShare 23 = .ok (.istore_n 2, 1) := by decide +kernel
theorem dX2_spoiltShare_24 : decode cX2_spoiltShare 24 = .ok (.iconst 0, 1) := by decide +kernel
theorem dX2_spoiltShare_25 : decode cX2_spoiltShare 25 = .ok (.istore_n 3, 1) := by decide +kernel
theorem dX2_spoiltShare_26 : decode cX2_spoiltShare 26 = .ok (.iload_n 3, 1) := by decide +kernel
theorem dX2_spoiltShare_27 : decode cX2_spoiltShare 27 = .ok (.aload_n 0, 1) := by decide +kernel
theorem dX2_spoiltShare_28 : decode cX2_spoiltShare 28 = .ok (.getfield 45, 3) := by decide +kernel
theorem dX2_spoiltShare_31 : decode cX2_spoiltShare 31 = .ok (.if_icmp .ge 33, 3) := by decide +kernel
theorem dX2_spoiltShare_34 : decode cX2_spoiltShare 34 = .ok (.aload_n 0, 1) := by decide +kernel
theorem dX2_spoiltShare_35 : decode cX2_spoiltShare 35 = .ok (.getfield 41, 3) := by decide +kernel
theorem dX2_spoiltShare_38 : decode cX2_spoiltShare 38 = .ok (.iload_n 3, 1) := by decide +kernel
theorem dX2_spoiltShare_39 : decode cX2_spoiltShare 39 = .ok (.invokevirtual 186, 3) := by decide +kernel
theorem dX2_spoiltShare_42 : decode cX2_spoiltShare 42 = .ok (.ifCond .eq 16, 3) := by decide +kernel
theorem dX2_spoiltShare_45 : decode cX2_spoiltShare 45 = .ok (.iload_n 2, 1) := by decide +kernel
theorem dX2_spoiltShare_46 : decode cX2_spoiltShare 46 = .ok (.aload_n 0, 1) := by decide +kernel
theorem dX2_spoiltShare_47 : decode cX2_spoiltShare 47 = .ok (.getfield 41, 3) := by decide +kernel
theorem dX2_spoiltShare_50 : decode cX2_spoiltShare 50 = .ok (.bipush 98, 2) := by decide +kernel
theorem dX2_spoiltShare_52 : decode cX2_spoiltShare 52 = .ok (.iload_n 3, 1) := by decide +kernel
theorem dX2_spoiltShare_53 : decode cX2_spoiltShare 53 = .ok (.invokevirtual 142, 3) := by decide +kernel
theorem dX2_spoiltShare_56 : decode cX2_spoiltShare 56 = .ok (.iadd, 1) := by decide +kernel
theorem dX2_spoiltShare_57 : decode cX2_spoiltShare 57 = .ok (.istore_n 2, 1) := by decide +kernel
theorem dX2_spoiltShare_58 : decode cX2_spoiltShare 58 = .ok (.iinc 3 1, 3) := by decide +kernel
theorem dX2_spoiltShare_61 : decode cX2_spoiltShare 61 = .ok (.goto (-35), 3) := by decide +kernel
theorem dX2_spoiltShare_64 : decode cX2_spoiltShare 64 = .ok (.iload_n 2, 1) := by decide +kernel
theorem dX2_spoiltShare_65 : decode cX2_spoiltShare 65 = .ok (.i2f, 1) := by decide +kernel
theorem dX2_spoiltShare_66 : decode cX2_spoiltShare 66 = .ok (.iload_n 1, 1) := by decide +kernel
theorem dX2_spoiltShare_67 : decode cX2_spoiltShare 67 = .ok (.i2f, 1) := by decide +kernel
theorem dX2_spoiltShare_68 : decode cX2_spoiltShare 68 = .ok (.fdiv, 1) := by decide +kernel
theorem dX2_spoiltShare_69 : decode cX2_spoiltShare 69 = .ok (.freturn, 1) := by decide +kernel
theorem dX2_meanPay_0 : decode cX2_meanPay 0 = .ok (.lconst 0, 1) := by decide +kernel
theorem dX2_meanPay_1 : decode cX2_meanPay 1 = .ok (.lstore_n 1, 1) := by decide +kernel
theorem dX2_meanPay_2 : decode cX2_meanPay 2 = .ok (.lconst 0, 1) := by decide +kernel
theorem dX2_meanPay_3 : decode cX2_meanPay 3 = .ok (.lstore_n 3, 1) := by decide +kernel
theorem dX2_meanPay_4 : decode cX2_meanPay 4 = .ok (.iconst 0, 1) := by decide +kernel
theorem dX2_meanPay_5 : decode cX2_meanPay 5 = .ok (.istore 5, 2) := by decide +kernel
theorem dX2_meanPay_7 : decode cX2_meanPay 7 = .ok (.iload 5, 2) := by decide +kernel
theorem dX2_meanPay_9 : decode cX2_meanPay 9 = .ok (.aload_n 0, 1) := by decide +kernel
theorem dX2_meanPay_10 : decode cX2_meanPay 10 = .ok (.getfield 45, 3) := by decide +kernel
theorem dX2_meanPay_13 : decode cX2_meanPay 13 = .ok (.if_icmp .ge 49, 3) := by decide +kernel
theorem dX2_meanPay_16 : decode cX2_meanPay 16 = .ok (.aload_n 0, 1) := by decide +kernel
theorem dX2_meanPay_17 : decode cX2_meanPay 17 = .ok (.getfield 41, 3) := by decide +kernel
theorem dX2_meanPay_20 : decode cX2_meanPay 20 = .ok (.iload 5, 2) := by decide +kernel
theorem dX2_meanPay_22 : decode cX2_meanPay 22 = .ok (.invokevirtual 190, 3) := by decide +kernel
theorem dX2_meanPay_25 : decode cX2_meanPay 25 = .ok (.ifCond .eq 31, 3) := by decide +kernel
theorem dX2_meanPay_28 : decode cX2_meanPay 28 = .ok (.lload_n 1, 1) := by decide +kernel
theorem dX2_meanPay_29 : decode cX2_meanPay 29 = .ok (.aload_n 0, 1) := by decide +kernel
theorem dX2_meanPay_30 : decode cX2_meanPay 30 = .ok (.getfield 41, 3) := by decide +kernel
theorem dX2_meanPay_33 : decode cX2_meanPay 33 = .ok (.iload 5, 2) := by decide +kernel
theorem dX2_meanPay_35 : decode cX2_meanPay 35 = .ok (.invokevirtual 201, 3) := by decide +kernel
theorem dX2_meanPay_38 : decode cX2_meanPay 38 = .ok (.i2l, 1) := by decide +kernel
theorem dX2_meanPay_39 : decode cX2_meanPay 39 = .ok (.ladd, 1) := by decide +kernel
theorem dX2_meanPay_40 : decode cX2_meanPay 40 = .ok (.lstore_n 1, 1) := by decide +kernel
theorem dX2_meanPay_41 : decode cX2_meanPay 41 = .ok (.lload_n 3, 1) := by decide +kernel
theorem dX2_meanPay_42 : decode cX2_meanPay 42 = .ok (.aload_n 0, 1) := by decide +kernel
theorem dX2_meanPay_43 : decode cX2_meanPay 43 = .ok (.getfield 41, 3) := by decide +kernel
theorem dX2_meanPay_46 : decode cX2_meanPay 46 = .ok (.bipush 98, 2) := by decide +kernel
theorem dX2_meanPay_48 : decode cX2_meanPay 48 = .ok (.iload 5, 2) := by decide +kernel
theorem dX2_meanPay_50 : decode cX2_meanPay 50 = .ok (.invokevirtual 142, 3) := by decide +kernel
theorem dX2_meanPay_53 : decode cX2_meanPay 53 = .ok (.i2l, 1) := by decide +kernel
theorem dX2_meanPay_54 : decode cX2_meanPay 54 = .ok (.ladd, 1) := by decide +kernel
theorem dX2_meanPay_55 : decode cX2_meanPay 55 = .ok (.lstore_n 3, 1) := by decide +kernel
theorem dX2_meanPay_56 : decode cX2_meanPay 56 = .ok (.iinc 5 1, 3) := by decide +kernel
theorem dX2_meanPay_59 : decode cX2_meanPay 59 = .ok (.goto (-52), 3) := by decide +kernel
theorem dX2_meanPay_62 : decode cX2_meanPay 62 = .ok (.lload_n 3, 1) := by decide +kernel
theorem dX2_meanPay_63 : decode cX2_meanPay 63 = .ok (.lconst 0, 1) := by decide +kernel
theorem dX2_meanPay_64 : decode cX2_meanPay 64 = .ok (.lcmp, 1) := by decide +kernel
theorem dX2_meanPay_65 : decode cX2_meanPay 65 = .ok (.ifCond .gt 13, 3) := by decide +kernel
theorem dX2_meanPay_68 : decode cX2_meanPay 68 = .ok (.new 220, 3) := by decide +kernel
theorem dX2_meanPay_71 : decode cX2_meanPay 71 = .ok (.dup, 1) := by decide +kernel
theorem dX2_meanPay_72 : decode cX2_meanPay 72 = .ok (.ldc 225, 2) := by decide +kernel
theorem dX2_meanPay_74 : decode cX2_meanPay 74 = .ok (.invokespecial 224, 3) := by decide +kernel
theorem dX2_meanPay_77 : decode cX2_meanPay 77 = .ok (.athrow, 1) := by decide +kernel
theorem dX2_meanPay_78 : decode cX2_meanPay 78 = .ok (.lload_n 1, 1) := by decide +kernel
theorem dX2_meanPay_79 : decode cX2_meanPay 79 = .ok (.l2d, 1) := by decide +kernel
theorem dX2_meanPay_80 : decode cX2_meanPay 80 = .ok (.lload_n 3, 1) := by decide +kernel
theorem dX2_meanPay_81 : decode cX2_meanPay 81 = .ok (.l2d, 1) := by decide +kernel
theorem dX2_meanPay_82 : decode cX2_meanPay 82 = .ok (.ddiv, 1) := by decide +kernel
theorem dX2_meanPay_83 : decode cX2_meanPay 83 = .ok (.dreturn, 1) := by decide +kernel
theorem dX2_freeRoom_0 : decode cX2_freeRoom 0 = .ok (.aload_n 0, 1) := by decide +kernel
theorem dX2_freeRoom_1 : decode cX2_freeRoom 1 = .ok (.getfield 23, 3) := by decide +kernel
theorem dX2_freeRoom_4 : decode cX2_freeRoom 4 = .ok (.iload_n 1, 1) := by decide +kernel
theorem dX2_freeRoom_5 : decode cX2_freeRoom 5 = .ok (.iaload, 1) := by decide +kernel
theorem dX2_freeRoom_6 : decode cX2_freeRoom 6 = .ok (.aload_n 0, 1) := by decide +kernel
theorem dX2_freeRoom_7 : decode cX2_freeRoom 7 = .ok (.iload_n 1, 1) := by decide +kernel
theorem dX2_freeRoom_8 : decode cX2_freeRoom 8 = .ok (.invokevirtual 139, 3) := by decide +kernel
theorem dX2_freeRoom_11 : decode cX2_freeRoom 11 = .ok (.isub, 1) := by decide +kernel
theorem dX2_freeRoom_12 : decode cX2_freeRoom 12 = .ok (.ireturn, 1) := by decide +kernel
theorem dX2_requireFarm_0 : decode cX2_requireFarm 0 = .ok (.iload_n 1, 1) := by decide +kernel
theorem dX2_requireFarm_1 : decode cX2_requireFarm 1 = .ok (.ifCond .lt 14, 3) := by decide +kernel
theorem dX2_requireFarm_4 : decode cX2_requireFarm 4 = .ok (.iload_n 1, 1) := by decide +kernel
theorem dX2_requireFarm_5 : decode cX2_requireFarm 5 = .ok (.aload_n 0, 1) := by decide +kernel
theorem dX2_requireFarm_6 : decode cX2_requireFarm 6 = .ok (.getfield 16, 3) := by decide +kernel
theorem dX2_requireFarm_9 : decode cX2_requireFarm 9 = .ok (.getfield 55, 3) := by decide +kernel
theorem dX2_requireFarm_12 : decode cX2_requireFarm 12 = .ok (.if_icmp .lt 13, 3) := by decide +kernel
theorem dX2_requireFarm_15 : decode cX2_requireFarm 15 = .ok (.new 227, 3) := by decide +kernel
theorem dX2_requireFarm_18 : decode cX2_requireFarm 18 = .ok (.dup, 1) := by decide +kernel
theorem dX2_requireFarm_19 : decode cX2_requireFarm 19 = .ok (.ldc 229, 2) := by decide +kernel
theorem dX2_requireFarm_21 : decode cX2_requireFarm 21 = .ok (.invokespecial 231, 3) := by decide +kernel
theorem dX2_requireFarm_24 : decode cX2_requireFarm 24 = .ok (.athrow, 1) := by decide +kernel
theorem dX2_requireFarm_25 : decode cX2_requireFarm 25 = .ok (.return_, 1) := by decide +kernel
theorem dX2_requireVat_0 : decode cX2_requireVat 0 = .ok (.iload_n 1, 1) := by decide +kernel
theorem dX2_requireVat_1 : decode cX2_requireVat 1 = .ok (.ifCond .lt 11, 3) := by decide +kernel
theorem dX2_requireVat_4 : decode cX2_requireVat 4 = .ok (.iload_n 1, 1) := by decide +kernel
theorem dX2_requireVat_5 : decode cX2_requireVat 5 = .ok (.aload_n 0, 1) := by decide +kernel
theorem dX2_requireVat_6 : decode cX2_requireVat 6 = .ok (.getfield 20, 3) := by decide +kernel
theorem dX2_requireVat_9 : decode cX2_requireVat 9 = .ok (.if_icmp .lt 13, 3) := by decide +kernel
theorem dX2_requireVat_12 : decode cX2_requireVat 12 = .ok (.new 227, 3) := by decide +kernel
theorem dX2_requireVat_15 : decode cX2_requireVat 15 = .ok (.dup, 1) := by decide +kernel
theorem dX2_requireVat_16 : decode cX2_requireVat 16 = .ok (.ldc 232, 2) := by decide +kernel
theorem dX2_requireVat_18 : decode cX2_requireVat 18 = .ok (.invokespecial 231, 3) := by decide +kernel
theorem dX2_requireVat_21 : decode cX2_requireVat 21 = .ok (.athrow, 1) := by decide +kernel
theorem dX2_requireVat_22 : decode cX2_requireVat 22 = .ok (.return_, 1) := by decide +kernel
theorem dX2_requireSample_0 : decode cX2_requireSample 0 = .ok (.iload_n 1, 1) := by decide +kernel
theorem dX2_requireSample_1 : decode cX2_requireSample 1 = .ok (.ifCond .lt 14, 3) := by decide +kernel
theorem dX2_requireSample_4 : decode cX2_requireSample 4 = .ok (.iload_n 1, 1) := by decide +kernel
theorem dX2_requireSample_5 : decode cX2_requireSample 5 = .ok (.aload_n 0, 1) := by decide +kernel
theorem dX2_requireSample_6 : decode cX2_requireSample 6 = .ok (.getfield 41, 3) := by decide +kernel
theorem dX2_requireSample_9 : decode cX2_requireSample 9 = .ok (.getfield 105, 3) := by decide +kernel
theorem dX2_requireSample_12 : decode cX2_requireSample 12 = .ok (.if_icmp .lt 13, 3) := by decide +kernel
theorem dX2_requireSample_15 : decode cX2_requireSample 15 = .ok (.new 227, 3) := by decide +kernel
theorem dX2_requireSample_18 : decode cX2_requireSample 18 = .ok (.dup, 1) := by decide +kernel
theorem dX2_requireSample_19 : decode cX2_requireSample 19 = .ok (.ldc 234, 2) := by decide +kernel
theorem dX2_requireSample_21 : decode cX2_requireSample 21 = .ok (.invokespecial 231, 3) := by decide +kernel
theorem dX2_requireSample_24 : decode cX2_requireSample 24 = .ok (.athrow, 1) := by decide +kernel
theorem dX2_requireSample_25 : decode cX2_requireSample 25 = .ok (.return_, 1) := by decide +kernel
theorem dX2_requireBatch_0 : decode cX2_requireBatch 0 = .ok (.iload_n 1, 1) := by decide +kernel
theorem dX2_requireBatch_1 : decode cX2_requireBatch 1 = .ok (.ifCond .lt 11, 3) := by decide +kernel
theorem dX2_requireBatch_4 : decode cX2_requireBatch 4 = .ok (.iload_n 1, 1) := by decide +kernel
theorem dX2_requireBatch_5 : decode cX2_requireBatch 5 = .ok (.aload_n 0, 1) := by decide +kernel
theorem dX2_requireBatch_6 : decode cX2_requireBatch 6 = .ok (.getfield 45, 3) := by decide +kernel
theorem dX2_requireBatch_9 : decode cX2_requireBatch 9 = .ok (.if_icmp .lt 13, 3) := by decide +kernel
theorem dX2_requireBatch_12 : decode cX2_requireBatch 12 = .ok (.new 227, 3) := by decide +kernel
theorem dX2_requireBatch_15 : decode cX2_requireBatch 15 = .ok (.dup, 1) := by decide +kernel
theorem dX2_requireBatch_16 : decode cX2_requireBatch 16 = .ok (.ldc 236, 2) := by decide +kernel
theorem dX2_requireBatch_18 : decode cX2_requireBatch 18 = .ok (.invokespecial 231, 3) := by decide +kernel
theorem dX2_requireBatch_21 : decode cX2_requireBatch 21 = .ok (.athrow, 1) := by decide +kernel
theorem dX2_requireBatch_22 : decode cX2_requireBatch 22 = .ok (.return_, 1) := by decide +kernel
theorem dX2_requireGradedBatch_0 : decode cX2_requireGradedBatch 0 = .ok (.aload_n 0, 1) := by decide +kernel
theorem dX2_requireGradedBatch_1 : decode cX2_requireGradedBatch 1 = .ok (.iload_n 1, 1) := by decide +kernel
theorem dX2_requireGradedBatch_2 : decode cX2_requireGradedBatch 2 = .ok (.invokevirtual 183, 3) := by decide +kernel
theorem dX2_requireGradedBatch_5 : decode cX2_requireGradedBatch 5 = .ok (.aload_n 0, 1) := by decide +kernel
theorem dX2_requireGradedBatch_6 : decode cX2_requireGradedBatch 6 = .ok (.getfield 41, 3) := by decide +kernel
theorem dX2_requireGradedBatch_9 : decode cX2_requireGradedBatch 9 = .ok (.iload_n 1, 1) := by decide +kernel
theorem dX2_requireGradedBatch_10 : decode cX2_requireGradedBatch 10 = .ok (.invokevirtual 190, 3) := by decide +kernel
theorem dX2_requireGradedBatch_13 : decode cX2_requireGradedBatch 13 = .ok (.ifCond .ne 13, 3) := by decide +kernel
theorem dX2_requireGradedBatch_16 : decode cX2_requireGradedBatch 16 = .ok (.new 124, 3) := by decide +kernel
theorem dX2_requireGradedBatch_19 : decode cX2_requireGradedBatch 19 = .ok (.dup, 1) := by decide +kernel
theorem dX2_requireGradedBatch_20 : decode cX2_requireGradedBatch 20 = .ok (.ldc 238, 2) := by decide +kernel
theorem dX2_requireGradedBatch_22 : decode cX2_requireGradedBatch 22 = .ok (.invokespecial 128, 3) := by decide +kernel
theorem dX2_requireGradedBatch_25 : decode cX2_requireGradedBatch 25 = .ok (.athrow, 1) := by decide +kernel
theorem dX2_requireGradedBatch_26 : decode cX2_requireGradedBatch 26 = .ok (.return_, 1) := by decide +kernel
end
section
theorem dX3_init_0 : decode cX3_init 0 = .ok (.aload_n 0, 1) := by decide +kernel
theorem dX3_init_1 : decode cX3_init 1 = .ok (.invokespecial 1, 3) := by decide +kernel
theorem dX3_init_4 : decode cX3_init 4 = .ok (.aload_n 0, 1) := by decide +kernel
theorem dX3_init_5 : decode cX3_init 5 = .ok (.bipush 6, 2) := by decide +kernel
theorem dX3_init_7 : decode cX3_init 7 = .ok (.newarray .int, 2) := by decide +kernel
theorem dX3_init_9 : decode cX3_init 9 = .ok (.putfield 7, 3) := by decide +kernel
theorem dX3_init_12 : decode cX3_init 12 = .ok (.aload_n 0, 1) := by decide +kernel
theorem dX3_init_13 : decode cX3_init 13 = .ok (.bipush 6, 2) := by decide +kernel
theorem dX3_init_15 : decode cX3_init 15 = .ok (.newarray .int, 2) := by decide +kernel
theorem dX3_init_17 : decode cX3_init 17 = .ok (.putfield 13, 3) := by decide +kernel
theorem dX3_init_20 : decode cX3_init 20 = .ok (.aload_n 0, 1) := by decide +kernel
theorem dX3_init_21 : decode cX3_init 21 = .ok (.bipush 30, 2) := by decide +kernel
theorem dX3_init_23 : decode cX3_init 23 = .ok (.newarray .int, 2) := by decide +kernel
theorem dX3_init_25 : decode cX3_init 25 = .ok (.putfield 16, 3) := by decide +kernel
theorem dX3_init_28 : decode cX3_init 28 = .ok (.aload_n 0, 1) := by decide +kernel
theorem dX3_init_29 : decode cX3_init 29 = .ok (.bipush 6, 2) := by decide +kernel
theorem dX3_init_31 : decode cX3_init 31 = .ok (.newarray .int, 2) := by decide +kernel
theorem dX3_init_33 : decode cX3_init 33 = .ok (.putfield 19, 3) := by decide +kernel
theorem dX3_init_36 : decode cX3_init 36 = .ok (.aload_n 0, 1) := by decide +kernel
theorem dX3_init_37 : decode cX3_init 37 = .ok (.iconst 4, 1) := by decide +kernel
theorem dX3_init_38 : decode cX3_init 38 = .ok (.newarray .int, 2) := by decide +kernel
theorem dX3_init_40 : decode cX3_init 40 = .ok (.putfield 22, 3) := by decide +kernel
theorem dX3_init_43 : decode cX3_init 43 = .ok (.aload_n 0, 1) := by decide +kernel
theorem dX3_init_44 : decode cX3_init 44 = .ok (.iconst 4, 1) := by decide +kernel
theorem dX3_init_45 : decode cX3_init 45 = .ok (.newarray .int, 2) := by decide +kernel
theorem dX3_init_47 : decode cX3_init 47 = .ok (.putfield 25, 3) := by decide +kernel
theorem dX3_init_50 : decode cX3_init 50 = .ok (.aload_n 0, 1) := by decide +kernel
theorem dX3_init_51 : decode cX3_init 51 = .ok (.iconst 4, 1) := by decide +kernel
theorem dX3_init_52 : decode cX3_init 52 = .ok (.newarray .int, 2) := by decide +kernel
theorem dX3_init_54 : decode cX3_init 54 = .ok (.putfield 28, 3) := by decide +kernel
theorem dX3_init_57 : decode cX3_init 57 = .ok (.aload_n 0, 1) := by decide +kernel
theorem dX3_init_58 : decode cX3_init 58 = .ok (.bipush 6, 2) := by decide +kernel
theorem dX3_init_60 : decode cX3_init 60 = .ok (.newarray .boolean, 2) := by decide +kernel
theorem dX3_init_62 : decode cX3_init 62 = .ok (.putfield 31, 3) := by decide +kernel
theorem dX3_init_65 : decode cX3_init 65 = .ok (.aload_n 0, 1) := by decide +kernel
theorem dX3_init_66 : decode cX3_init 66 = .ok (.bipush 100, 2) := by decide +kernel
theorem dX3_init_68 : decode cX3_init 68 = .ok (.newarray .int, 2) := by decide +kernel
theorem dX3_init_70 : decode cX3_init 70 = .ok (.putfield 35, 3) := by decide +kernel
theorem dX3_init_73 : decode cX3_init 73 = .ok (.aload_n 0, 1) := by decide +kernel
theorem dX3_init_74 : decode cX3_init 74 = .ok (.bipush 100, 2) := by decide +kernel
theorem dX3_init_76 : decode cX3_init 76 = .ok (.newarray .int, 2) := by decide +kernel
theorem dX3_init_78 : decode cX3_init 78 = .ok (.putfield 38, 3) := by decide +kernel
theorem dX3_init_81 : decode cX3_init 81 = .ok (.aload_n 0, 1) := by decide +kernel
theorem dX3_init_82 : decode cX3_init 82 = .ok (.bipush 100, 2) := by decide +kernel
theorem dX3_init_84 : decode cX3_init 84 = .ok (.newarray .char, 2) := by decide +kernel
theorem dX3_init_86 : decode cX3_init 86 = .ok (.putfield 41, 3) := by decide +kernel
theorem dX3_init_89 : decode cX3_init 89 = .ok (.aload_n 0, 1) := by decide +kernel
theorem dX3_init_90 : decode cX3_init 90 = .ok (.bipush 100, 2) := by decide +kernel
theorem dX3_init_92 : decode cX3_init 92 = .ok (.newarray .int, 2) := by decide +kernel
theorem dX3_init_94 : decode cX3_init 94 = .ok (.putfield 45, 3) := by decide +kernel
theorem dX3_init_97 : decode cX3_init 97 = .ok (.return_, 1) := by decide +kernel
theorem dX3_thrown_0 : decode cX3_thrown 0 = .ok (.aload_n 0, 1) := by decide +kernel
theorem dX3_thrown_1 : decode cX3_thrown 1 = .ok (.getfield 48, 3) := by decide +kernel
theorem dX3_thrown_4 : decode cX3_thrown 4 = .ok (.ireturn, 1) := by decide +kernel
theorem dX3_in_0 : decode cX3_in 0 = .ok (.lload_n 0, 1) := by decide +kernel
theorem dX3_in_1 : decode cX3_in 1 = .ok (.lload_n 2, 1) := by decide +kernel
theorem dX3_in_2 : decode cX3_in 2 = .ok (.lcmp, 1) := by decide +kernel
theorem dX3_in_3 : decode cX3_in 3 = .ok (.ifCond .lt 14, 3) := by decide +kernel
theorem dX3_in_6 : decode cX3_in 6 = .ok (.lload_n 0, 1) := by decide +kernel
theorem dX3_in_7 : decode cX3_in 7 = .ok (.lload 4, 2) := by decide +kernel
theorem dX3_in_9 : decode cX3_in 9 = .ok (.lcmp, 1) := by decide +kernel
theorem dX3_in_10 : decode cX3_in 10 = .ok (.ifCond .gt 7, 3) := by decide +kernel
theorem dX3_in_13 : decode cX3_in 13 = .ok (.iconst 1, 1) := by decide +kernel
theorem dX3_in_14 : decode cX3_in 14 = .ok (.goto 4, 3) := by decide +kernel
theorem dX3_in_17 : decode cX3_in 17 = .ok (.iconst 0, 1) := by decide +kernel
theorem dX3_in_18 : decode cX3_in 18 = .ok (.ireturn, 1) := by decide +kernel
theorem dX3_addFarm_0 : decode cX3_addFarm 0 = .ok (.aload_n 0, 1) := by decide +kernel
theorem dX3_addFarm_1 : decode cX3_addFarm 1 = .ok (.iload_n 1, 1) := by decide +kernel
theorem dX3_addFarm_2 : decode cX3_addFarm 2 = .ok (.i2l, 1) := by decide +kernel
theorem dX3_addFarm_3 : decode cX3_addFarm 3 = .ok (.ldc2_w 52, 3) := by decide +kernel
theorem dX3_addFarm_6 : decode cX3_addFarm 6 = .ok (.ldc2_w 54, 3) := by decide +kernel
theorem dX3_addFarm_9 : decode cX3_addFarm 9 = .ok (.invokestatic 56, 3) := by decide +kernel
theorem dX3_addFarm_12 : decode cX3_addFarm 12 = .ok (.ifCond .ne 7, 3) := by decide +kernel
theorem dX3_addFarm_15 : decode cX3_addFarm 15 = .ok (.iconst 1, 1) := by decide +kernel
theorem dX3_addFarm_16 : decode cX3_addFarm 16 = .ok (.goto 17, 3) := by decide +kernel
theorem dX3_addFarm_19 : decode cX3_addFarm 19 = .ok (.aload_n 0, 1) := by decide +kernel
theorem dX3_addFarm_20 : decode cX3_addFarm 20 = .ok (.getfield 60, 3) := by decide +kernel
theorem dX3_addFarm_23 : decode cX3_addFarm 23 = .ok (.bipush 6, 2) := by decide +kernel
theorem dX3_addFarm_25 : decode cX3_addFarm 25 = .ok (.if_icmp .ne 7, 3) := by decide +kernel
theorem dX3_addFarm_28 : decode cX3_addFarm 28 = .ok (.iconst 2, 1) := by decide +kernel
theorem dX3_addFarm_29 : decode cX3_addFarm 29 = .ok (.goto 4, 3) := by decide +kernel
theorem dX3_addFarm_32 : decode cX3_addFarm 32 = .ok (.iconst 0, 1) := by decide +kernel
theorem dX3_addFarm_33 : decode cX3_addFarm 33 = .ok (.putfield 48, 3) := by decide +kernel
theorem dX3_addFarm_36 : decode cX3_addFarm 36 = .ok (.aload_n 0, 1) := by decide +kernel
theorem dX3_addFarm_37 : decode cX3_addFarm 37 = .ok (.getfield 48, 3) := by decide +kernel
theorem dX3_addFarm_40 : decode cX3_addFarm 40 = .ok (.ifCond .le 5, 3) := by decide +kernel
theorem dX3_addFarm_43 : decode cX3_addFarm 43 = .ok (.iconst (-1), 1) := by decide +kernel
theorem dX3_addFarm_44 : decode cX3_addFarm 44 = .ok (.ireturn, 1) := by decide +kernel
theorem dX3_addFarm_45 : decode cX3_addFarm 45 = .ok (.aload_n 0, 1) := by decide +kernel
theorem dX3_addFarm_46 : decode cX3_addFarm 46 = .ok (.getfield 7, 3) := by decide +kernel
theorem dX3_addFarm_49 : decode cX3_addFarm 49 = .ok (.aload_n 0, 1) := by decide +kernel
theorem dX3_addFarm_50 : decode cX3_addFarm 50 = .ok (.getfield 60, 3) := by decide +kernel
theorem dX3_addFarm_53 : decode cX3_addFarm 53 = .ok (.iload_n 1, 1) := by decide +kernel
theorem dX3_addFarm_54 : decode cX3_addFarm 54 = .ok (.iastore, 1) := by decide +kernel
theorem dX3_addFarm_55 : decode cX3_addFarm 55 = .ok (.aload_n 0, 1) := by decide +kernel
theorem dX3_addFarm_56 : decode cX3_addFarm 56 = .ok (.dup, 1) := by decide +kernel
theorem dX3_addFarm_57 : decode cX3_addFarm 57 = .ok (.getfield 60, 3) := by decide +kernel
theorem dX3_addFarm_60 : decode cX3_addFarm 60 = .ok (.iconst 1, 1) := by decide +kernel
theorem dX3_addFarm_61 : decode cX3_addFarm 61 = .ok (.iadd, 1) := by decide +kernel
theorem dX3_addFarm_62 : decode cX3_addFarm 62 = .ok (.putfield 60, 3) := by decide +kernel
theorem dX3_addFarm_65 : decode cX3_addFarm 65 = .ok (.aload_n 0, 1) := by decide +kernel
theorem dX3_addFarm_66 : decode cX3_addFarm 66 = .ok (.getfield 60, 3) := by decide +kernel
theorem dX3_addFarm_69 : decode cX3_addFarm 69 = .ok (.iconst 1, 1) := by decide +kernel
theorem dX3_addFarm_70 : decode cX3_addFarm 70 = .ok (.isub, 1) := by decide +kernel
theorem dX3_addFarm_71 : decode cX3_addFarm 71 = .ok (.ireturn, 1) := by decide +kernel
theorem dX3_isFarm_0 : decode cX3_isFarm 0 = .ok (.iload_n 1, 1) := by decide +kernel
theorem dX3_isFarm_1 : decode cX3_isFarm 1 = .ok (.i2l, 1) := by decide +kernel
theorem dX3_isFarm_2 : decode cX3_isFarm 2 = .ok (.lconst 0, 1) := by decide +kernel
theorem dX3_isFarm_3 : decode cX3_isFarm 3 = .ok (.aload_n 0, 1) := by decide +kernel
theorem dX3_isFarm_4 : decode cX3_isFarm 4 = .ok (.getfield 60, 3) := by decide +kernel
theorem dX3_isFarm_7 : decode cX3_isFarm 7 = .ok (.iconst 1, 1) := by decide +kernel
theorem dX3_isFarm_8 : decode cX3_isFarm 8 = .ok (.isub, 1) := by decide +kernel
theorem dX3_isFarm_9 : decode cX3_isFarm 9 = .ok (.i2l, 1) := by decide +kernel
theorem dX3_isFarm_10 : decode cX3_isFarm 10 = .ok (.invokestatic 56, 3) := by decide +kernel
theorem dX3_isFarm_13 : decode cX3_isFarm 13 = .ok (.ireturn, 1) := by decide +kernel
theorem dX3_addCow_0 : decode cX3_addCow 0 = .ok (.aload_n 0, 1) := by decide +kernel
theorem dX3_addCow_1 : decode cX3_addCow 1 = .ok (.aload_n 0, 1) := by decide +kernel
theorem dX3_addCow_2 : decode cX3_addCow 2 = .ok (.iload_n 1, 1) := by decide +kernel
theorem dX3_addCow_3 : decode cX3_addCow 3 = .ok (.invokevirtual 63, 3) := by decide +kernel
theorem dX3_addCow_6 : decode cX3_addCow 6 = .ok (.ifCond .ne 7, 3) := by decide +kernel
theorem dX3_addCow_9 : decode cX3_addCow 9 = .ok (.iconst 1, 1) := by decide +kernel
theorem dX3_addCow_10 : decode cX3_addCow 10 = .ok (.goto 36, 3) := by decide +kernel
theorem dX3_addCow_13 : decode cX3_addCow 13 = .ok (.iload_n 2, 1) := by decide +kernel
theorem dX3_addCow_14 : decode cX3_addCow 14 = .ok (.i2l, 1) := by decide +kernel
theorem dX3_addCow_15 : decode cX3_addCow 15 = .ok (.ldc2_w 67, 3) := by decide +kernel
theorem dX3_addCow_18 : decode cX3_addCow 18 = .ok (.ldc2_w 69, 3) := by decide +kernel
theorem dX3_addCow_21 : decode cX3_addCow 21 = .ok (.invokestatic 56, 3) := by decide +kernel
theorem dX3_addCow_24 : decode cX3_addCow 24 = .ok (.ifCond .ne 7, 3) := by decide +kernel
theorem dX3_addCow_27 : decode cX3_addCow 27 = .ok (.iconst 2, 1) := by decide +kernel
theorem dX3_addCow_28 : decode cX3_addCow 28 = .ok (.goto 18, 3) := by decide +kernel
theorem dX3_addCow_31 : decode cX3_addCow 31 = .ok (.aload_n 0, 1) := by decide +kernel
theorem dX3_addCow_32 : decode cX3_addCow 32 = .ok (.getfield 19, 3) := by decide +kernel
theorem dX3_addCow_35 : decode cX3_addCow 35 = .ok (.iload_n 1, 1) := by decide +kernel
theorem dX3_addCow_36 : decode cX3_addCow 36 = .ok (.iaload, 1) := by decide +kernel
theorem dX3_addCow_37 : decode cX3_addCow 37 = .ok (.iconst 5, 1) := by decide +kernel
theorem dX3_addCow_38 : decode cX3_addCow 38 = .ok (.if_icmp .ne 7, 3) := by decide +kernel
theorem dX3_addCow_41 : decode cX3_addCow 41 = .ok (.iconst 3, 1) := by decide +kernel
theorem dX3_addCow_42 : decode cX3_addCow 42 = .ok (.goto 4, 3) := by decide +kernel
theorem dX3_addCow_45 : decode cX3_addCow 45 = .ok (.iconst 0, 1) := by decide +kernel
theorem dX3_addCow_46 : decode cX3_addCow 46 = .ok (.putfield 48, 3) := by decide +kernel
theorem dX3_addCow_49 : decode cX3_addCow 49 = .ok (.aload_n 0, 1) := by decide +kernel
theorem dX3_addCow_50 : decode cX3_addCow 50 = .ok (.getfield 48, 3) := by decide +kernel
theorem dX3_addCow_53 : decode cX3_addCow 53 = .ok (.ifCond .le 5, 3) := by decide +kernel
theorem dX3_addCow_56 : decode cX3_addCow 56 = .ok (.iconst (-1), 1) := by decide +kernel
theorem dX3_addCow_57 : decode cX3_addCow 57 = .ok (.ireturn, 1) := by decide +kernel
theorem dX3_addCow_58 : decode cX3_addCow 58 = .ok (.aload_n 0, 1) := by decide +kernel
theorem dX3_addCow_59 : decode cX3_addCow 59 = .ok (.getfield 16, 3) := by decide +kernel
theorem dX3_addCow_62 : decode cX3_addCow 62 = .ok (.iconst 5, 1) := by decide +kernel
theorem dX3_addCow_63 : decode cX3_addCow 63 = .ok (.iload_n 1, 1) := by decide +kernel
theorem dX3_addCow_64 : decode cX3_addCow 64 = .ok (.imul, 1) := by decide +kernel
theorem dX3_addCow_65 : decode cX3_addCow 65 = .ok (.aload_n 0, 1) := by decide +kernel
theorem dX3_addCow_66 : decode cX3_addCow 66 = .ok (.getfield 19, 3) := by decide +kernel
theorem dX3_addCow_69 : decode cX3_addCow 69 = .ok (.iload_n 1, 1) := by decide +kernel
theorem dX3_addCow_70 : decode cX3_addCow 70 = .ok (.iaload, 1) := by decide +kernel
theorem dX3_addCow_71 : decode cX3_addCow 71 = .ok (.iadd, 1) := by decide +kernel
theorem dX3_addCow_72 : decode cX3_addCow 72 = .ok (.iload_n 2, 1) := by decide +kernel
theorem dX3_addCow_73 : decode cX3_addCow 73 = .ok (.iastore, 1) := by decide +kernel
theorem dX3_addCow_74 : decode cX3_addCow 74 = .ok (.aload_n 0, 1) := by decide +kernel
theorem dX3_addCow_75 : decode cX3_addCow 75 = .ok (.getfield 19, 3) := by decide +kernel
theorem dX3_addCow_78 : decode cX3_addCow 78 = .ok (.iload_n 1, 1) := by decide +kernel
theorem dX3_addCow_79 : decode cX3_addCow 79 = .ok (.dup2, 1) := by decide +kernel
theorem dX3_addCow_80 : decode cX3_addCow 80 = .ok (.iaload, 1) := by decide +kernel
theorem dX3_addCow_81 : decode cX3_addCow 81 = .ok (.iconst 1, 1) := by decide +kernel
theorem dX3_addCow_82 : decode cX3_addCow 82 = .ok (.iadd, 1) := by decide +kernel
theorem dX3_addCow_83 : decode cX3_addCow 83 = .ok (.iastore, 1) := by decide +kernel
theorem dX3_addCow_84 : decode cX3_addCow 84 = .ok (.aload_n 0, 1) := by decide +kernel
theorem dX3_addCow_85 : decode cX3_addCow 85 = .ok (.getfield 19, 3) := by decide +kernel
theorem dX3_addCow_88 : decode cX3_addCow 88 = .ok (.iload_n 1, 1) := by decide +kernel
theorem dX3_addCow_89 : decode cX3_addCow 89 = .ok (.iaload, 1) := by decide +kernel
theorem dX3_addCow_90 : decode cX3_addCow 90 = .ok (.ireturn, 1) := by decide +kernel
theorem dX3_gives_0 : decode cX3_gives 0 = .ok (.iconst 5, 1) := by decide +kernel
theorem dX3_gives_1 : decode cX3_gives 1 = .ok (.iload_n 1, 1) := by decide +kernel
theorem dX3_gives_2 : decode cX3_gives 2 = .ok (.bipush 10, 2) := by decide +kernel
theorem dX3_gives_4 : decode cX3_gives 4 = .ok (.irem, 1) := by decide +kernel
theorem dX3_gives_5 : decode cX3_gives 5 = .ok (.isub, 1) := by decide +kernel
theorem dX3_gives_6 : decode cX3_gives 6 = .ok (.istore_n 2, 1) := by decide +kernel
theorem dX3_gives_7 : decode cX3_gives 7 = .ok (.iload_n 0, 1) := by decide +kernel
theorem dX3_gives_8 : decode cX3_gives 8 = .ok (.iload_n 2, 1) := by decide +kernel
theorem dX3_gives_9 : decode cX3_gives 9 = .ok (.ifCond .ge 8, 3) := by decide +kernel
theorem dX3_gives_12 : decode cX3_gives 12 = .ok (.iload_n 2, 1) := by decide +kernel
theorem dX3_gives_13 : decode cX3_gives 13 = .ok (.ineg, 1) := by decide +kernel
theorem dX3_gives_14 : decode cX3_gives 14 = .ok (.goto 4, 3) := by decide +kernel
theorem dX3_gives_17 : decode cX3_gives 17 = .ok (.iload_n 2, 1) := by decide +kernel
theorem dX3_gives_18 : decode cX3_gives 18 = .ok (.isub, 1) := by decide +kernel
theorem dX3_gives_19 : decode cX3_gives 19 = .ok (.istore_n 3, 1) := by decide +kernel
theorem dX3_gives_20 : decode cX3_gives 20 = .ok (.iload_n 3, 1) := by decide +kernel
theorem dX3_gives_21 : decode cX3_gives 21 = .ok (.iconst 5, 1) := by decide +kernel
theorem dX3_gives_22 : decode cX3_gives 22 = .ok (.if_icmp .ge 7, 3) := by decide +kernel
theorem dX3_gives_25 : decode cX3_gives 25 = .ok (.iconst 5, 1) := by decide +kernel
theorem dX3_gives_26 : decode cX3_gives 26 = .ok (.goto 4, 3) := by decide +kernel
theorem dX3_gives_29 : decode cX3_gives 29 = .ok (.iload_n 3, 1) := by decide +kernel
theorem dX3_gives_30 : decode cX3_gives 30 = .ok (.ireturn, 1) := by decide +kernel
theorem dX3_milkOf_0 : decode cX3_milkOf 0 = .ok (.aload_n 0, 1) := by decide +kernel
theorem dX3_milkOf_1 : decode cX3_milkOf 1 = .ok (.aload_n 0, 1) := by decide +kernel
theorem dX3_milkOf_2 : decode cX3_milkOf 2 = .ok (.iload_n 1, 1) := by decide +kernel
theorem dX3_milkOf_3 : decode cX3_milkOf 3 = .ok (.invokevirtual 63, 3) := by decide +kernel
theorem dX3_milkOf_6 : decode cX3_milkOf 6 = .ok (.ifCond .ne 7, 3) := by decide +kernel
theorem dX3_milkOf_9 : decode cX3_milkOf 9 = .ok (.iconst 1, 1) := by decide +kernel
theorem dX3_milkOf_10 : decode cX3_milkOf 10 = .ok (.goto 20, 3) := by decide +kernel
theorem dX3_milkOf_13 : decode cX3_milkOf 13 = .ok (.iload_n 2, 1) := by decide +kernel
theorem dX3_milkOf_14 : decode cX3_milkOf 14 = .ok (.i2l, 1) := by decide +kernel
theorem dX3_milkOf_15 : decode cX3_milkOf 15 = .ok (.lconst 0, 1) := by decide +kernel
theorem dX3_milkOf_16 : decode cX3_milkOf 16 = .ok (.ldc2_w 71, 3) := by decide +kernel
theorem dX3_milkOf_19 : decode cX3_milkOf 19 = .ok (.invokestatic 56, 3) := by decide +kernel
theorem dX3_milkOf_22 : decode cX3_milkOf 22 = .ok (.ifCond .ne 7, 3) := by decide +kernel
theorem dX3_milkOf_25 : decode cX3_milkOf 25 = .ok (.iconst 2, 1) := by decide +kernel
theorem dX3_milkOf_26 : decode cX3_milkOf 26 = .ok (.goto 4, 3) := by decide +kernel
theorem dX3_milkOf_29 : decode cX3_milkOf 29 = .ok (.iconst 0, 1) := by decide +kernel
theorem dX3_milkOf_30 : decode cX3_milkOf 30 = .ok (.putfield 48, 3) := by decide +kernel
theorem dX3_milkOf_33 : decode cX3_milkOf 33 = .ok (.aload_n 0, 1) := by decide +kernel
theorem dX3_milkOf_34 : decode cX3_milkOf 34 = .ok (.getfield 48, 3) := by decide +kernel
theorem dX3_milkOf_37 : decode cX3_milkOf 37 = .ok (.ifCond .ne 7, 3) := by decide +kernel
theorem dX3_milkOf_40 : decode cX3_milkOf 40 = .ok (.iconst 0, 1) := by decide +kernel
theorem dX3_milkOf_41 : decode cX3_milkOf 41 = .ok (.goto 4, 3) := by decide +kernel
theorem dX3_milkOf_44 : decode cX3_milkOf 44 = .ok (.iconst (-1), 1) := by decide +kernel
theorem dX3_milkOf_45 : decode cX3_milkOf 45 = .ok (.istore_n 3, 1) := by decide +kernel
theorem dX3_milkOf_46 : decode cX3_milkOf 46 = .ok (.iconst 0, 1) := by decide +kernel
theorem dX3_milkOf_47 : decode cX3_milkOf 47 = .ok (.istore 4, 2) := by decide +kernel
theorem dX3_milkOf_49 : decode cX3_milkOf 49 = .ok (.aload_n 0, 1) := by decide +kernel
theorem dX3_milkOf_50 : decode cX3_milkOf 50 = .ok (.getfield 48, 3) := by decide +kernel
theorem dX3_milkOf_53 : decode cX3_milkOf 53 = .ok (.ifCond .ne 38, 3) := by decide +kernel
theorem dX3_milkOf_56 : decode cX3_milkOf 56 = .ok (.iload 4, 2) := by decide +kernel
theorem dX3_milkOf_58 : decode cX3_milkOf 58 = .ok (.aload_n 0, 1) := by decide +kernel
theorem dX3_milkOf_59 : decode cX3_milkOf 59 = .ok (.getfield 19, 3) := by decide +kernel
theorem dX3_milkOf_62 : decode cX3_milkOf 62 = .ok (.iload_n 1, 1) := by decide +kernel
theorem dX3_milkOf_63 : decode cX3_milkOf 63 = .ok (.iaload, 1) := by decide +kernel
theorem dX3_milkOf_64 : decode cX3_milkOf 64 = .ok (.if_icmp .ge 27, 3) := by decide +kernel
theorem dX3_milkOf_67 : decode cX3_milkOf 67 = .ok (.iload_n 3, 1) := by decide +kernel
theorem dX3_milkOf_68 : decode cX3_milkOf 68 = .ok (.aload_n 0, 1) := by decide +kernel
theorem dX3_milkOf_69 : decode cX3_milkOf 69 = .ok (.getfield 16, 3) := by decide +kernel
theorem dX3_milkOf_72 : decode cX3_milkOf 72 = .ok (.iconst 5, 1) := by decide +kernel
theorem dX3_milkOf_73 : decode cX3_milkOf 73 = .ok (.iload_n 1, 1) := by decide +kernel
theorem dX3_milkOf_74 : decode cX3_milkOf 74 = .ok (.imul, 1) := by decide +kernel
theorem dX3_milkOf_75 : decode cX3_milkOf 75 = .ok (.iload 4, 2) := by decide +kernel
theorem dX3_milkOf_77 : decode cX3_milkOf 77 = .ok (.iadd, 1) := by decide +kernel
theorem dX3_milkOf_78 : decode cX3_milkOf 78 = .ok (.iaload, 1) := by decide +kernel
theorem dX3_milkOf_79 : decode cX3_milkOf 79 = .ok (.iload_n 2, 1) := by decide +kernel
theorem dX3_milkOf_80 : decode cX3_milkOf 80 = .ok (.invokestatic 73, 3) := by decide +kernel
theorem dX3_milkOf_83 : decode cX3_milkOf 83 = .ok (.iadd, 1) := by decide +kernel
theorem dX3_milkOf_84 : decode cX3_milkOf 84 = .ok (.istore_n 3, 1) := by decide +kernel
theorem dX3_milkOf_85 : decode cX3_milkOf 85 = .ok (.iinc 4 1, 3) := by decide +kernel
theorem dX3_milkOf_88 : decode cX3_milkOf 88 = .ok (.goto (-39), 3) := by decide +kernel
theorem dX3_milkOf_91 : decode cX3_milkOf 91 = .ok (.iload_n 3, 1) := by decide +kernel
theorem dX3_milkOf_92 : decode cX3_milkOf 92 = .ok (.ireturn, 1) := by decide +kernel
theorem dX3_inTank_0 : decode cX3_inTank 0 = .ok (.aload_n 0, 1) := by decide +kernel
theorem dX3_inTank_1 : decode cX3_inTank 1 = .ok (.aload_n 0, 1) := by decide +kernel
theorem dX3_inTank_2 : decode cX3_inTank 2 = .ok (.iload_n 1, 1) := by decide +kernel
theorem dX3_inTank_3 : decode cX3_inTank 3 = .ok (.invokevirtual 63, 3) := by decide +kernel
theorem dX3_inTank_6 : decode cX3_inTank 6 = .ok (.ifCond .eq 7, 3) := by decide +kernel
theorem dX3_inTank_9 : decode cX3_inTank 9 = .ok (.iconst 0, 1) := by decide +kernel
theorem dX3_inTank_10 : decode cX3_inTank 10 = .ok (.goto 4, 3) := by decide +kernel
theorem dX3_inTank_13 : decode cX3_inTank 13 = .ok (.iconst 1, 1) := by decide +kernel
theorem dX3_inTank_14 : decode cX3_inTank 14 = .ok (.putfield 48, 3) := by decide +kernel
theorem dX3_inTank_17 : decode cX3_inTank 17 = .ok (.aload_n 0, 1) := by decide +kernel
theorem dX3_inTank_18 : decode cX3_inTank 18 = .ok (.getfield 48, 3) := by decide +kernel
theorem dX3_inTank_21 : decode cX3_inTank 21 = .ok (.ifCond .ne 12, 3) := by decide +kernel
theorem dX3_inTank_24 : decode cX3_inTank 24 = .ok (.aload_n 0, 1) := by decide +kernel
theorem dX3_inTank_25 : decode cX3_inTank 25 = .ok (.getfield 13, 3) := by decide +kernel
theorem dX3_inTank_28 : decode cX3_inTank 28 = .ok (.iload_n 1, 1) := by decide +kernel
theorem dX3_inTank_29 : decode cX3_inTank 29 = .ok (.iaload, 1) := by decide +kernel
theorem dX3_inTank_30 : decode cX3_inTank 30 = .ok (.goto 4, 3) := by decide +kernel
theorem dX3_inTank_33 : decode cX3_inTank 33 = .ok (.iconst (-1), 1) := by decide +kernel
theorem dX3_inTank_34 : decode cX3_inTank 34 = .ok (.ireturn, 1) := by decide +kernel
theorem dX3_pass_0 : decode cX3_pass 0 = .ok (.aload_n 0, 1) := by decide +kernel
theorem dX3_pass_1 : decode cX3_pass 1 = .ok (.iload_n 1, 1) := by decide +kernel
theorem dX3_pass_2 : decode cX3_pass 2 = .ok (.i2l, 1) := by decide +kernel
theorem dX3_pass_3 : decode cX3_pass 3 = .ok (.lconst 1, 1) := by decide +kernel
theorem dX3_pass_4 : decode cX3_pass 4 = .ok (.ldc2_w 69, 3) := by decide +kernel
theorem dX3_pass_7 : decode cX3_pass 7 = .ok (.invokestatic 56, 3) := by decide +kernel
theorem dX3_pass_10 : decode cX3_pass 10 = .ok (.ifCond .eq 19, 3) := by decide +kernel
theorem dX3_pass_13 : decode cX3_pass 13 = .ok (.aload_n 0, 1) := by decide +kernel
theorem dX3_pass_14 : decode cX3_pass 14 = .ok (.getfield 77, 3) := by decide +kernel
theorem dX3_pass_17 : decode cX3_pass 17 = .ok (.iload_n 1, 1) := by decide +kernel
theorem dX3_pass_18 : decode cX3_pass 18 = .ok (.iadd, 1) := by decide +kernel
theorem dX3_pass_19 : decode cX3_pass 19 = .ok (.sipush 999, 3) := by decide +kernel
theorem dX3_pass_22 : decode cX3_pass 22 = .ok (.if_icmp .gt 7, 3) := by decide +kernel
theorem dX3_pass_25 : decode cX3_pass 25 = .ok (.iconst 0, 1) := by decide +kernel
theorem dX3_pass_26 : decode cX3_pass 26 = .ok (.goto 4, 3) := by decide +kernel
theorem dX3_pass_29 : decode cX3_pass 29 = .ok (.iconst 1, 1) := by decide +kernel
theorem dX3_pass_30 : decode cX3_pass 30 = .ok (.putfield 48, 3) := by decide +kernel
theorem dX3_pass_33 : decode cX3_pass 33 = .ok (.aload_n 0, 1) := by decide +kernel
theorem dX3_pass_34 : decode cX3_pass 34 = .ok (.getfield 48, 3) := by decide +kernel
theorem dX3_pass_37 : decode cX3_pass 37 = .ok (.ifCond .ne 7, 3) := by decide +kernel
theorem dX3_pass_40 : decode cX3_pass 40 = .ok (.iconst 0, 1) := by decide +kernel
theorem dX3_pass_41 : decode cX3_pass 41 = .ok (.goto 4, 3) := by decide +kernel
theorem dX3_pass_44 : decode cX3_pass 44 = .ok (.iconst (-1), 1) := by decide +kernel
theorem dX3_pass_45 : decode cX3_pass 45 = .ok (.istore_n 2, 1) := by decide +kernel
theorem dX3_pass_46 : decode cX3_pass 46 = .ok (.iconst 0, 1) := by decide +kernel
theorem dX3_pass_47 : decode cX3_pass 47 = .ok (.istore_n 3, 1) := by decide +kernel
theorem dX3_pass_48 : decode cX3_pass 48 = .ok (.iload_n 3, 1) := by decide +kernel
theorem dX3_pass_49 : decode cX3_pass 49 = .ok (.iload_n 1, 1) := by decide +kernel
theorem dX3_pass_50 : decode cX3_pass 50 = .ok (.if_icmp .ge 139, 3) := by decide +kernel
theorem dX3_pass_53 : decode cX3_pass 53 = .ok (.aload_n 0, 1) := by decide +kernel
theorem dX3_pass_54 : decode cX3_pass 54 = .ok (.getfield 48, 3) := by decide +kernel
theorem dX3_pass_57 : decode cX3_pass 57 = .ok (.ifCond .ne 132, 3) := by decide +kernel
theorem dX3_pass_60 : decode cX3_pass 60 = .ok (.aload_n 0, 1) := by decide +kernel
theorem dX3_pass_61 : decode cX3_pass 61 = .ok (.dup, 1) := by decide +kernel
theorem dX3_pass_62 : decode cX3_pass 62 = .ok (.getfield 77, 3) := by decide +kernel
theorem dX3_pass_65 : decode cX3_pass 65 = .ok (.iconst 1, 1) := by decide +kernel
theorem dX3_pass_66 : decode cX3_pass 66 = .ok (.iadd, 1) := by decide +kernel
theorem dX3_pass_67 : decode cX3_pass 67 = .ok (.putfield 77, 3) := by decide +kernel
theorem dX3_pass_70 : decode cX3_pass 70 = .ok (.iconst 0, 1) := by decide +kernel
theorem dX3_pass_71 : decode cX3_pass 71 = .ok (.istore 4, 2) := by decide +kernel
theorem dX3_pass_73 : decode cX3_pass 73 = .ok (.iload 4, 2) := by decide +kernel
theorem dX3_pass_75 : decode cX3_pass 75 = .ok (.aload_n 0, 1) := by decide +kernel
theorem dX3_pass_76 : decode cX3_pass 76 = .ok (.getfield 60, 3) := by decide +kernel
theorem dX3_pass_79 : decode cX3_pass 79 = .ok (.if_icmp .ge 104, 3) := by decide +kernel
theorem dX3_pass_82 : decode cX3_pass 82 = .ok (.iconst 0, 1) := by decide +kernel
theorem dX3_pass_83 : decode cX3_pass 83 = .ok (.istore 5, 2) := by decide +kernel
theorem dX3_pass_85 : decode cX3_pass 85 = .ok (.iload 5, 2) := by decide +kernel
theorem dX3_pass_87 : decode cX3_pass 87 = .ok (.aload_n 0, 1) := by decide +kernel
theorem dX3_pass_88 : decode cX3_pass 88 = .ok (.getfield 19, 3) := by decide +kernel
theorem dX3_pass_91 : decode cX3_pass 91 = .ok (.iload 4, 2) := by decide +kernel
theorem dX3_pass_93 : decode cX3_pass 93 = .ok (.iaload, 1) := by decide +kernel
theorem dX3_pass_94 : decode cX3_pass 94 = .ok (.if_icmp .ge 83, 3) := by decide +kernel
theorem dX3_pass_97 : decode cX3_pass 97 = .ok (.aload_n 0, 1) := by decide +kernel
theorem dX3_pass_98 : decode cX3_pass 98 = .ok (.getfield 16, 3) := by decide +kernel
theorem dX3_pass_101 : decode cX3_pass 101 = .ok (.iconst 5, 1) := by decide +kernel
theorem dX3_pass_102 : decode cX3_pass 102 = .ok (.iload 4, 2) := by decide +kernel
theorem dX3_pass_104 : decode cX3_pass 104 = .ok (.imul, 1) := by decide +kernel
theorem dX3_pass_105 : decode cX3_pass 105 = .ok (.iload 5, 2) := by decide +kernel
theorem dX3_pass_107 : decode cX3_pass 107 = .ok (.iadd, 1) := by decide +kernel
theorem dX3_pass_108 : decode cX3_pass 108 = .ok (.iaload, 1) := by decide +kernel
theorem dX3_pass_109 : decode cX3_pass 109 = .ok (.aload_n 0, 1) := by decide +kernel
theorem dX3_pass_110 : decode cX3_pass 110 = .ok (.getfield 77, 3) := by decide +kernel
theorem dX3_pass_113 : decode cX3_pass 113 = .ok (.invokestatic 73, 3) := by decide +kernel
theorem dX3_pass_116 : decode cX3_pass 116 = .ok (.istore 6, 2) := by decide +kernel
theorem dX3_pass_118 : decode cX3_pass 118 = .ok (.aload_n 0, 1) := by decide +kernel
theorem dX3_pass_119 : decode cX3_pass 119 = .ok (.getfield 7, 3) := by decide +kernel
theorem dX3_pass_122 : decode cX3_pass 122 = .ok (.iload 4, 2) := by decide +kernel
theorem dX3_pass_124 : decode cX3_pass 124 = .ok (.iaload, 1) := by decide +kernel
theorem dX3_pass_125 : decode cX3_pass 125 = .ok (.aload_n 0, 1) := by decide +kernel
theorem dX3_pass_126 : decode cX3_pass 126 = .ok (.getfield 13, 3) := by decide +kernel
theorem dX3_pass_129 : decode cX3_pass 129 = .ok (.iload 4, 2) := by decide +kernel
theorem dX3_pass_131 : decode cX3_pass 131 = .ok (.iaload, 1) := by decide +kernel
theorem dX3_pass_132 : decode cX3_pass 132 = .ok (.isub, 1) := by decide +kernel
theorem dX3_pass_133 : decode cX3_pass 133 = .ok (.istore 7, 2) := by decide +kernel
theorem dX3_pass_135 : decode cX3_pass 135 = .ok (.iload 6, 2) := by decide +kernel
theorem dX3_pass_137 : decode cX3_pass 137 = .ok (.iload 7, 2) := by decide +kernel
theorem dX3_pass_139 : decode cX3_pass 139 = .ok (.if_icmp .ge 8, 3) := by decide +kernel
theorem dX3_pass_142 : decode cX3_pass 142 = .ok (.iload 6, 2) := by decide +kernel
theorem dX3_pass_144 : decode cX3_pass 144 = .ok (.goto 5, 3) := by decide +kernel
theorem dX3_pass_147 : decode cX3_pass 147 = .ok (.iload 7, 2) := by decide +kernel
theorem dX3_pass_149 : decode cX3_pass 149 = .ok (.istore 8, 2) := by decide +kernel
theorem dX3_pass_151 : decode cX3_pass 151 = .ok (.aload_n 0, 1) := by decide +kernel
theorem dX3_pass_152 : decode cX3_pass 152 = .ok (.getfield 13, 3) := by decide +kernel
theorem dX3_pass_155 : decode cX3_pass 155 = .ok (.iload 4, 2) := by decide +kernel
theorem dX3_pass_157 : decode cX3_pass 157 = .ok (.dup2, 1) := by decide +kernel
theorem dX3_pass_158 : decode cX3_pass 158 = .ok (.iaload, 1) := by decide +kernel
theorem dX3_pass_159 : decode cX3_pass 159 = .ok (.iload 8, 2) := by decide +kernel
theorem dX3_pass_161 : decode cX3_pass 161 = .ok (.iadd, 1) := by decide +kernel
theorem dX3_pass_162 : decode cX3_pass 162 = .ok (.iastore, 1) := by decide +kernel
theorem dX3_pass_163 : decode cX3_pass 163 = .ok (.iload_n 2, 1) := by decide +kernel
theorem dX3_pass_164 : decode cX3_pass 164 = .ok (.iload 6, 2) := by decide +kernel
theorem dX3_pass_166 : decode cX3_pass 166 = .ok (.iload 8, 2) := by decide +kernel
theorem dX3_pass_168 : decode cX3_pass 168 = .ok (.isub, 1) := by decide +kernel
theorem dX3_pass_169 : decode cX3_pass 169 = .ok (.iadd, 1) := by decide +kernel
theorem dX3_pass_170 : decode cX3_pass 170 = .ok (.istore_n 2, 1) := by decide +kernel
theorem dX3_pass_171 : decode cX3_pass 171 = .ok (.iinc 5 1, 3) := by decide +kernel
theorem dX3_pass_174 : decode cX3_pass 174 = .ok (.goto (-89), 3) := by decide +kernel
theorem dX3_pass_177 : decode cX3_pass 177 = .ok (.iinc 4 1, 3) := by decide +kernel
theorem dX3_pass_180 : decode cX3_pass 180 = .ok (.goto (-107), 3) := by decide +kernel
theorem dX3_pass_183 : decode cX3_pass 183 = .ok (.iinc 3 1, 3) := by decide +kernel
theorem dX3_pass_186 : decode cX3_pass 186 = .ok (.goto (-138), 3) := by decide +kernel
theorem dX3_pass_189 : decode cX3_pass 189 = .ok (.iload_n 2, 1) := by decide +kernel
theorem dX3_pass_190 : decode cX3_pass 190 = .ok (.ireturn, 1) := by decide +kernel
theorem dX3_day_0 : decode cX3_day 0 = .ok (.aload_n 0, 1) := by decide +kernel
theorem dX3_day_1 : decode cX3_day 1 = .ok (.iconst 0, 1) := by decide +kernel
theorem dX3_day_2 : decode cX3_day 2 = .ok (.putfield 48, 3) := by decide +kernel
theorem dX3_day_5 : decode cX3_day 5 = .ok (.aload_n 0, 1) := by decide +kernel
theorem dX3_day_6 : decode cX3_day 6 = .ok (.getfield 77, 3) := by decide +kernel
theorem dX3_day_9 : decode cX3_day 9 = .ok (.ireturn, 1) := by decide +kernel
theorem dX3_addVat_0 : decode cX3_addVat 0 = .ok (.aload_n 0, 1) := by decide +kernel
theorem dX3_addVat_1 : decode cX3_addVat 1 = .ok (.iload_n 1, 1) := by decide +kernel
theorem dX3_addVat_2 : decode cX3_addVat 2 = .ok (.i2l, 1) := by decide +kernel
theorem dX3_addVat_3 : decode cX3_addVat 3 = .ok (.ldc2_w 80, 3) := by decide +kernel
theorem dX3_addVat_6 : decode cX3_addVat 6 = .ok (.ldc2_w 82, 3) := by decide +kernel
theorem dX3_addVat_9 : decode cX3_addVat 9 = .ok (.invokestatic 56, 3) := by decide +kernel
theorem dX3_addVat_12 : decode cX3_addVat 12 = .ok (.ifCond .ne 7, 3) := by decide +kernel
theorem dX3_addVat_15 : decode cX3_addVat 15 = .ok (.iconst 1, 1) := by decide +kernel
theorem dX3_addVat_16 : decode cX3_addVat 16 = .ok (.goto 16, 3) := by decide +kernel
theorem dX3_addVat_19 : decode cX3_addVat 19 = .ok (.aload_n 0, 1) := by decide +kernel
theorem dX3_addVat_20 : decode cX3_addVat 20 = .ok (.getfield 84, 3) := by decide +kernel
theorem dX3_addVat_23 : decode cX3_addVat 23 = .ok (.iconst 4, 1) := by decide +kernel
theorem dX3_addVat_24 : decode cX3_addVat 24 = .ok (.if_icmp .ne 7, 3) := by decide +kernel
theorem dX3_addVat_27 : decode cX3_addVat 27 = .ok (.iconst 2, 1) := by decide +kernel
theorem dX3_addVat_28 : decode cX3_addVat 28 = .ok (.goto 4, 3) := by decide +kernel
theorem dX3_addVat_31 : decode cX3_addVat 31 = .ok (.iconst 0, 1) := by decide +kernel
theorem dX3_addVat_32 : decode cX3_addVat 32 = .ok (.putfield 48, 3) := by decide +kernel
theorem dX3_addVat_35 : decode cX3_addVat 35 = .ok (.aload_n 0, 1) := by decide +kernel
theorem dX3_addVat_36 : decode cX3_addVat 36 = .ok (.getfield 48, 3) := by decide +kernel
theorem dX3_addVat_39 : decode cX3_addVat 39 = .ok (.ifCond .le 5, 3) := by decide +kernel
theorem dX3_addVat_42 : decode cX3_addVat 42 = .ok (.iconst (-1), 1) := by decide +kernel
theorem dX3_addVat_43 : decode cX3_addVat 43 = .ok (.ireturn, 1) := by decide +kernel
theorem dX3_addVat_44 : decode cX3_addVat 44 = .ok (.aload_n 0, 1) := by decide +kernel
theorem dX3_addVat_45 : decode cX3_addVat 45 = .ok (.getfield 22, 3) := by decide +kernel
theorem dX3_addVat_48 : decode cX3_addVat 48 = .ok (.aload_n 0, 1) := by decide +kernel
theorem dX3_addVat_49 : decode cX3_addVat 49 = .ok (.getfield 84, 3) := by decide +kernel
theorem dX3_addVat_52 : decode cX3_addVat 52 = .ok (.iload_n 1, 1) := by decide +kernel
theorem dX3_addVat_53 : decode cX3_addVat 53 = .ok (.iastore, 1) := by decide +kernel
theorem dX3_addVat_54 : decode cX3_addVat 54 = .ok (.aload_n 0, 1) := by decide +kernel
theorem dX3_addVat_55 : decode cX3_addVat 55 = .ok (.dup, 1) := by decide +kernel
theorem dX3_addVat_56 : decode cX3_addVat 56 = .ok (.getfield 84, 3) := by decide +kernel
theorem dX3_addVat_59 : decode cX3_addVat 59 = .ok (.iconst 1, 1) := by decide +kernel
theorem dX3_addVat_60 : decode cX3_addVat 60 = .ok (.iadd, 1) := by decide +kernel
theorem dX3_addVat_61 : decode cX3_addVat 61 = .ok (.putfield 84, 3) := by decide +kernel
theorem dX3_addVat_64 : decode cX3_addVat 64 = .ok (.aload_n 0, 1) := by decide +kernel
theorem dX3_addVat_65 : decode cX3_addVat 65 = .ok (.getfield 84, 3) := by decide +kernel
theorem dX3_addVat_68 : decode cX3_addVat 68 = .ok (.iconst 1, 1) := by decide +kernel
theorem dX3_addVat_69 : decode cX3_addVat 69 = .ok (.isub, 1) := by decide +kernel
theorem dX3_addVat_70 : decode cX3_addVat 70 = .ok (.ireturn, 1) := by decide +kernel
theorem dX3_beginRound_0 : decode cX3_beginRound 0 = .ok (.aload_n 0, 1) := by decide +kernel
theorem dX3_beginRound_1 : decode cX3_beginRound 1 = .ok (.aload_n 0, 1) := by decide +kernel
theorem dX3_beginRound_2 : decode cX3_beginRound 2 = .ok (.getfield 87, 3) := by decide +kernel
theorem dX3_beginRound_5 : decode cX3_beginRound 5 = .ok (.ifCond .eq 7, 3) := by decide +kernel
theorem dX3_beginRound_8 : decode cX3_beginRound 8 = .ok (.iconst 1, 1) := by decide +kernel
theorem dX3_beginRound_9 : decode cX3_beginRound 9 = .ok (.goto 4, 3) := by decide +kernel
theorem dX3_beginRound_12 : decode cX3_beginRound 12 = .ok (.iconst 0, 1) := by decide +kernel
theorem dX3_beginRound_13 : decode cX3_beginRound 13 = .ok (.putfield 48, 3) := by decide +kernel
theorem dX3_beginRound_16 : decode cX3_beginRound 16 = .ok (.aload_n 0, 1) := by decide +kernel
theorem dX3_beginRound_17 : decode cX3_beginRound 17 = .ok (.getfield 48, 3) := by decide +kernel
theorem dX3_beginRound_20 : decode cX3_beginRound 20 = .ok (.ifCond .le 5, 3) := by decide +kernel
theorem dX3_beginRound_23 : decode cX3_beginRound 23 = .ok (.iconst (-1), 1) := by decide +kernel
theorem dX3_beginRound_24 : decode cX3_beginRound 24 = .ok (.ireturn, 1) := by decide +kernel
theorem dX3_beginRound_25 : decode cX3_beginRound 25 = .ok (.aload_n 0, 1) := by decide +kernel
theorem dX3_beginRound_26 : decode cX3_beginRound 26 = .ok (.iconst 1, 1) := by decide +kernel
theorem dX3_beginRound_27 : decode cX3_beginRound 27 = .ok (.putfield 87, 3) := by decide +kernel
theorem dX3_beginRound_30 : decode cX3_beginRound 30 = .ok (.iconst 0, 1) := by decide +kernel
theorem dX3_beginRound_31 : decode cX3_beginRound 31 = .ok (.istore_n 1, 1) := by decide +kernel
theorem dX3_beginRound_32 : decode cX3_beginRound 32 = .ok (.iload_n 1, 1) := by decide +kernel
theorem dX3_beginRound_33 : decode cX3_beginRound 33 = .ok (.bipush 6, 2) := by decide +kernel
theorem dX3_beginRound_35 : decode cX3_beginRound 35 = .ok (.if_icmp .ge 16, 3) := by decide +kernel
theorem dX3_beginRound_38 : decode cX3_beginRound 38 = .ok (.aload_n 0, 1) := by decide +kernel
theorem dX3_beginRound_39 : decode cX3_beginRound 39 = .ok (.getfield 31, 3) := by decide +kernel
theorem dX3_beginRound_42 : decode cX3_beginRound 42 = .ok (.iload_n 1, 1) := by decide +kernel
theorem dX3_beginRound_43 : decode cX3_beginRound 43 = .ok (.iconst 0, 1) := by decide +kernel
theorem dX3_beginRound_44 : decode cX3_beginRound 44 = .ok (.bastore, 1) := by decide +kernel
theorem dX3_beginRound_45 : decode cX3_beginRound 45 = .ok (.iinc 1 1, 3) := by decide +kernel
theorem dX3_beginRound_48 : decode cX3_beginRound 48 = .ok (.goto (-16), 3) := by decide +kernel
theorem dX3_beginRound_51 : decode cX3_beginRound 51 = .ok (.aload_n 0, 1) := by decide +kernel
theorem dX3_beginRound_52 : decode cX3_beginRound 52 = .ok (.dup, 1) := by decide +kernel
theorem dX3_beginRound_53 : decode cX3_beginRound 53 = .ok (.getfield 91, 3) := by decide +kernel
theorem dX3_beginRound_56 : decode cX3_beginRound 56 = .ok (.iconst 1, 1) := by decide +kernel
theorem dX3_beginRound_57 : decode cX3_beginRound 57 = .ok (.iadd, 1) := by decide +kernel
theorem dX3_beginRound_58 : decode cX3_beginRound 58 = .ok (.putfield 91, 3) := by decide +kernel
theorem dX3_beginRound_61 : decode cX3_beginRound 61 = .ok (.aload_n 0, 1) := by decide +kernel
theorem dX3_beginRound_62 : decode cX3_beginRound 62 = .ok (.getfield 91, 3) := by decide +kernel
theorem dX3_beginRound_65 : decode cX3_beginRound 65 = .ok (.ireturn, 1) := by decide +kernel
theorem dX3_visit_0 : decode cX3_visit 0 = .ok (.aload_n 0, 1) := by decide +kernel
theorem dX3_visit_1 : decode cX3_visit 1 = .ok (.aload_n 0, 1) := by decide +kernel
theorem dX3_visit_2 : decode cX3_visit 2 = .ok (.iload_n 1, 1) := by decide +kernel
theorem dX3_visit_3 : decode cX3_visit 3 = .ok (.invokevirtual 63, 3) := by decide +kernel
theorem dX3_visit_6 : decode cX3_visit 6 = .ok (.ifCond .ne 7, 3) := by decide +kernel
theorem dX3_visit_9 : decode cX3_visit 9 = .ok (.iconst 1, 1) := by decide +kernel
theorem dX3_visit_10 : decode cX3_visit 10 = .ok (.goto 33, 3) := by decide +kernel
theorem dX3_visit_13 : decode cX3_visit 13 = .ok (.aload_n 0, 1) := by decide +kernel
theorem dX3_visit_14 : decode cX3_visit 14 = .ok (.getfield 87, 3) := by decide +kernel
theorem dX3_visit_17 : decode cX3_visit 17 = .ok (.ifCond .eq 21, 3) := by decide +kernel
theorem dX3_visit_20 : decode cX3_visit 20 = .ok (.aload_n 0, 1) := by decide +kernel
theorem dX3_visit_21 : decode cX3_visit 21 = .ok (.getfield 31, 3) := by decide +kernel
theorem dX3_visit_24 : decode cX3_visit 24 = .ok (.iload_n 1, 1) := by decide +kernel
theorem dX3_visit_25 : decode cX3_visit 25 = .ok (.baload, 1) := by decide +kernel
theorem dX3_visit_26 : decode cX3_visit 26 = .ok (.ifCond .ne 12, 3) := by decide +kernel
theorem dX3_visit_29 : decode cX3_visit 29 = .ok (.aload_n 0, 1) := by decide +kernel
theorem dX3_visit_30 : decode cX3_visit 30 = .ok (.getfield 94, 3) := by decide +kernel
theorem dX3_visit_33 : decode cX3_visit 33 = .ok (.bipush 100, 2) := by decide +kernel
theorem dX3_visit_35 : decode cX3_visit 35 = .ok (.if_icmp .ne 7, 3) := by decide +kernel
theorem dX3_visit_38 : decode cX3_visit 38 = .ok (.iconst 2, 1) := by decide +kernel
theorem dX3_visit_39 : decode cX3_visit 39 = .ok (.goto 4, 3) := by decide +kernel
theorem dX3_visit_42 : decode cX3_visit 42 = .ok (.iconst 0, 1) := by decide +kernel
theorem dX3_visit_43 : decode cX3_visit 43 = .ok (.putfield 48, 3) := by decide +kernel
theorem dX3_visit_46 : decode cX3_visit 46 = .ok (.aload_n 0, 1) := by decide +kernel
theorem dX3_visit_47 : decode cX3_visit 47 = .ok (.getfield 48, 3) := by decide +kernel
theorem dX3_visit_50 : decode cX3_visit 50 = .ok (.ifCond .le 5, 3) := by decide +kernel
theorem dX3_visit_53 : decode cX3_visit 53 = .ok (.iconst (-1), 1) := by decide +kernel
theorem dX3_visit_54 : decode cX3_visit 54 = .ok (.ireturn, 1) := by decide +kernel
theorem dX3_visit_55 : decode cX3_visit 55 = .ok (.aload_n 0, 1) := by decide +kernel
theorem dX3_visit_56 : decode cX3_visit 56 = .ok (.getfield 31, 3) := by decide +kernel
theorem dX3_visit_59 : decode cX3_visit 59 = .ok (.iload_n 1, 1) := by decide +kernel
theorem dX3_visit_60 : decode cX3_visit 60 = .ok (.iconst 1, 1) := by decide +kernel
theorem dX3_visit_61 : decode cX3_visit 61 = .ok (.bastore, 1) := by decide +kernel
theorem dX3_visit_62 : decode cX3_visit 62 = .ok (.sipush 400, 3) := by decide +kernel
theorem dX3_visit_65 : decode cX3_visit 65 = .ok (.aload_n 0, 1) := by decide +kernel
theorem dX3_visit_66 : decode cX3_visit 66 = .ok (.getfield 97, 3) := by decide +kernel
theorem dX3_visit_69 : decode cX3_visit 69 = .ok (.isub, 1) := by decide +kernel
theorem dX3_visit_70 : decode cX3_visit 70 = .ok (.istore_n 2, 1) := by decide +kernel
theorem dX3_visit_71 : decode cX3_visit 71 = .ok (.aload_n 0, 1) := by decide +kernel
theorem dX3_visit_72 : decode cX3_visit 72 = .ok (.getfield 13, 3) := by decide +kernel
theorem dX3_visit_75 : decode cX3_visit 75 = .ok (.iload_n 1, 1) := by decide +kernel
theorem dX3_visit_76 : decode cX3_visit 76 = .ok (.iaload, 1) := by decide +kernel
theorem dX3_visit_77 : decode cX3_visit 77 = .ok (.iload_n 2, 1) := by decide +kernel
theorem dX3_visit_78 : decode cX3_visit 78 = .ok (.if_icmp .ge 12, 3) := by decide +kernel
theorem dX3_visit_81 : decode cX3_visit 81 = .ok (.aload_n 0, 1) := by decide +kernel
theorem dX3_visit_82 : decode cX3_visit 82 = .ok (.getfield 13, 3) := by decide +kernel
theorem dX3_visit_85 : decode cX3_visit 85 = .ok (.iload_n 1, 1) := by decide +kernel
theorem dX3_visit_86 : decode cX3_visit 86 = .ok (.iaload, 1) := by decide +kernel
theorem dX3_visit_87 : decode cX3_visit 87 = .ok (.goto 4, 3) := by decide +kernel
theorem dX3_visit_90 : decode cX3_visit 90 = .ok (.iload_n 2, 1) := by decide +kernel
theorem dX3_visit_91 : decode cX3_visit 91 = .ok (.istore_n 3, 1) := by decide +kernel
theorem dX3_visit_92 : decode cX3_visit 92 = .ok (.aload_n 0, 1) := by decide +kernel
theorem dX3_visit_93 : decode cX3_visit 93 = .ok (.getfield 13, 3) := by decide +kernel
theorem dX3_visit_96 : decode cX3_visit 96 = .ok (.iload_n 1, 1) := by decide +kernel
theorem dX3_visit_97 : decode cX3_visit 97 = .ok (.dup2, 1) := by decide +kernel
theorem dX3_visit_98 : decode cX3_visit 98 = .ok (.iaload, 1) := by decide +kernel
theorem dX3_visit_99 : decode cX3_visit 99 = .ok (.iload_n 3, 1) := by decide +kernel
theorem dX3_visit_100 : decode cX3_visit 100 = .ok (.isub, 1) := by decide +kernel
theorem dX3_visit_101 : decode cX3_visit 101 = .ok (.iastore, 1) := by decide +kernel
theorem dX3_visit_102 : decode cX3_visit 102 = .ok (.aload_n 0, 1) := by decide +kernel
theorem dX3_visit_103 : decode cX3_visit 103 = .ok (.dup, 1) := by decide +kernel
theorem dX3_visit_104 : decode cX3_visit 104 = .ok (.getfield 97, 3) := by decide +kernel
theorem dX3_visit_107 : decode cX3_visit 107 = .ok (.iload_n 3, 1) := by decide +kernel
theorem dX3_visit_108 : decode cX3_visit 108 = .ok (.iadd, 1) := by decide +kernel
theorem dX3_visit_109 : decode cX3_visit 109 = .ok (.putfield 97, 3) := by decide +kernel
theorem dX3_visit_112 : decode cX3_visit 112 = .ok (.iload_n 3, 1) := by decide +kernel
theorem dX3_visit_113 : decode cX3_visit 113 = .ok (.ifCond .le 54, 3) := by decide +kernel
theorem dX3_visit_116 : decode cX3_visit 116 = .ok (.aload_n 0, 1) := by decide +kernel
theorem dX3_visit_117 : decode cX3_visit 117 = .ok (.getfield 35, 3) := by decide +kernel
theorem dX3_visit_120 : decode cX3_visit 120 = .ok (.aload_n 0, 1) := by decide +kernel
theorem dX3_visit_121 : decode cX3_visit 121 = .ok (.getfield 94, 3) := by decide +kernel
theorem dX3_visit_124 : decode cX3_visit 124 = .ok (.iload_n 1, 1) := by decide +kernel
theorem dX3_visit_125 : decode cX3_visit 125 = .ok (.iastore, 1) := by decide +kernel
theorem dX3_visit_126 : decode cX3_visit 126 = .ok (.aload_n 0, 1) := by decide +kernel
theorem dX3_visit_127 : decode cX3_visit 127 = .ok (.getfield 38, 3) := by decide +kernel
theorem dX3_visit_130 : decode cX3_visit 130 = .ok (.aload_n 0, 1) := by decide +kernel
theorem dX3_visit_131 : decode cX3_visit 131 = .ok (.getfield 94, 3) := by decide +kernel
theorem dX3_visit_134 : decode cX3_visit 134 = .ok (.iload_n 3, 1) := by decide +kernel
theorem dX3_visit_135 : decode cX3_visit 135 = .ok (.iastore, 1) := by decide +kernel
theorem dX3_visit_136 : decode cX3_visit 136 = .ok (.aload_n 0, 1) := by decide +kernel
theorem dX3_visit_137 : decode cX3_visit 137 = .ok (.getfield 41, 3) := by decide +kernel
theorem dX3_visit_140 : decode cX3_visit 140 = .ok (.aload_n 0, 1) := by decide +kernel
theorem dX3_visit_141 : decode cX3_visit 141 = .ok (.getfield 94, 3) := by decide +kernel
theorem dX3_visit_144 : decode cX3_visit 144 = .ok (.bipush 45, 2) := by decide +kernel
theorem dX3_visit_146 : decode cX3_visit 146 = .ok (.castore, 1) := by decide +kernel
theorem dX3_visit_147 : decode cX3_visit 147 = .ok (.aload_n 0, 1) := by decide +kernel
theorem dX3_visit_148 : decode cX3_visit 148 = .ok (.getfield 45, 3) := by decide +kernel
theorem dX3_visit_151 : decode cX3_visit 151 = .ok (.aload_n 0, 1) := by decide +kernel
theorem dX3_visit_152 : decode cX3_visit 152 = .ok (.getfield 94, 3) := by decide +kernel
theorem dX3_visit_155 : decode cX3_visit 155 = .ok (.iconst (-1), 1) := by decide +kernel
theorem dX3_visit_156 : decode cX3_visit 156 = .ok (.iastore, 1) := by decide +kernel
theorem dX3_visit_157 : decode cX3_visit 157 = .ok (.aload_n 0, 1) := by decide +kernel
theorem dX3_visit_158 : decode cX3_visit 158 = .ok (.dup, 1) := by decide +kernel
theorem dX3_visit_159 : decode cX3_visit 159 = .ok (.getfield 94, 3) := by decide +kernel
theorem dX3_visit_162 : decode cX3_visit 162 = .ok (.iconst 1, 1) := by decide +kernel
theorem dX3_visit_163 : decode cX3_visit 163 = .ok (.iadd, 1) := by decide +kernel
theorem dX3_visit_164 : decode cX3_visit 164 = .ok (.putfield 94, 3) := by decide +kernel
theorem dX3_visit_167 : decode cX3_visit 167 = .ok (.iload_n 3, 1) := by decide +kernel
theorem dX3_visit_168 : decode cX3_visit 168 = .ok (.ireturn, 1) := by decide +kernel
theorem dX3_isVat_0 : decode cX3_isVat 0 = .ok (.iload_n 1, 1) := by decide +kernel
theorem dX3_isVat_1 : decode cX3_isVat 1 = .ok (.i2l, 1) := by decide +kernel
theorem dX3_isVat_2 : decode cX3_isVat 2 = .ok (.lconst 0, 1) := by decide +kernel
theorem dX3_isVat_3 : decode cX3_isVat 3 = .ok (.aload_n 0, 1) := by decide +kernel
theorem dX3_isVat_4 : decode cX3_isVat 4 = .ok (.getfield 84, 3) := by decide +kernel
theorem dX3_isVat_7 : decode cX3_isVat 7 = .ok (.iconst 1, 1) := by decide +kernel
theorem dX3_isVat_8 : decode cX3_isVat 8 = .ok (.isub, 1) := by decide +kernel
theorem dX3_isVat_9 : decode cX3_isVat 9 = .ok (.i2l, 1) := by decide +kernel
theorem dX3_isVat_10 : decode cX3_isVat 10 = .ok (.invokestatic 56, 3) := by decide +kernel
theorem dX3_isVat_13 : decode cX3_isVat 13 = .ok (.ireturn, 1) := by decide +kernel
theorem dX3_onWay_0 : decode cX3_onWay 0 = .ok (.iconst 0, 1) := by decide +kernel
theorem dX3_onWay_1 : decode cX3_onWay 1 = .ok (.istore_n 2, 1) := by decide +kernel
theorem dX3_onWay_2 : decode cX3_onWay 2 = .ok (.iconst 0, 1) := by decide +kernel
theorem dX3_onWay_3 : decode cX3_onWay 3 = .ok (.istore_n 3, 1) := by decide +kernel
theorem dX3_onWay_4 : decode cX3_onWay 4 = .ok (.iload_n 3, 1) := by decide +kernel
theorem dX3_onWay_5 : decode cX3_onWay 5 = .ok (.aload_n 0, 1) := by decide +kernel
theorem dX3_onWay_6 : decode cX3_onWay 6 = .ok (.getfield 94, 3) := by decide +kernel
theorem dX3_onWay_9 : decode cX3_onWay 9 = .ok (.if_icmp .ge 27, 3) := by decide +kernel
theorem dX3_onWay_12 : decode cX3_onWay 12 = .ok (.iload_n 2, 1) := by decide +kernel
theorem dX3_onWay_13 : decode cX3_onWay 13 = .ok (.aload_n 0, 1) := by decide +kernel
theorem dX3_onWay_14 : decode cX3_onWay 14 = .ok (.getfield 45, 3) := by decide +kernel
theorem dX3_onWay_17 : decode cX3_onWay 17 = .ok (.iload_n 3, 1) := by decide +kernel
theorem dX3_onWay_18 : decode cX3_onWay 18 = .ok (.iaload, 1) := by decide +kernel
theorem dX3_onWay_19 : decode cX3_onWay 19 = .ok (.iload_n 1, 1) := by decide +kernel
theorem dX3_onWay_20 : decode cX3_onWay 20 = .ok (.if_icmp .ne 7, 3) := by decide +kernel
theorem dX3_onWay_23 : decode cX3_onWay 23 = .ok (.iconst 1, 1) := by decide +kernel
theorem dX3_onWay_24 : decode cX3_onWay 24 = .ok (.goto 4, 3) := by decide +kernel
theorem dX3_onWay_27 : decode cX3_onWay 27 = .ok (.iconst 0, 1) := by decide +kernel
theorem dX3_onWay_28 : decode cX3_onWay 28 = .ok (.iadd, 1) := by decide +kernel
theorem dX3_onWay_29 : decode cX3_onWay 29 = .ok (.istore_n 2, 1) := by decide +kernel
theorem dX3_onWay_30 : decode cX3_onWay 30 = .ok (.iinc 3 1, 3) := by decide +kernel
theorem dX3_onWay_33 : decode cX3_onWay 33 = .ok (.goto (-29), 3) := by decide +kernel
theorem dX3_onWay_36 : decode cX3_onWay 36 = .ok (.iload_n 2, 1) := by decide +kernel
theorem dX3_onWay_37 : decode cX3_onWay 37 = .ok (.ireturn, 1) := by decide +kernel
theorem dX3_endRound_0 : decode cX3_endRound 0 = .ok (.aload_n 0, 1) := by decide +kernel
theorem dX3_endRound_1 : decode cX3_endRound 1 = .ok (.iload_n 1, 1) := by decide +kernel
theorem dX3_endRound_2 : decode cX3_endRound 2 = .ok (.invokevirtual 100, 3) := by decide +kernel
theorem dX3_endRound_5 : decode cX3_endRound 5 = .ok (.ifCond .eq 10, 3) := by decide +kernel
theorem dX3_endRound_8 : decode cX3_endRound 8 = .ok (.aload_n 0, 1) := by decide +kernel
theorem dX3_endRound_9 : decode cX3_endRound 9 = .ok (.getfield 87, 3) := by decide +kernel
theorem dX3_endRound_12 : decode cX3_endRound 12 = .ok (.ifCond .ne 22, 3) := by decide +kernel
theorem dX3_endRound_15 : decode cX3_endRound 15 = .ok (.aload_n 0, 1) := by decide +kernel
theorem dX3_endRound_16 : decode cX3_endRound 16 = .ok (.aload_n 0, 1) := by decide +kernel
theorem dX3_endRound_17 : decode cX3_endRound 17 = .ok (.iload_n 1, 1) := by decide +kernel
theorem dX3_endRound_18 : decode cX3_endRound 18 = .ok (.invokevirtual 100, 3) := by decide +kernel
theorem dX3_endRound_21 : decode cX3_endRound 21 = .ok (.ifCond .ne 7, 3) := by decide +kernel
theorem dX3_endRound_24 : decode cX3_endRound 24 = .ok (.iconst 1, 1) := by decide +kernel
theorem dX3_endRound_25 : decode cX3_endRound 25 = .ok (.goto 4, 3) := by decide +kernel
theorem dX3_endRound_28 : decode cX3_endRound 28 = .ok (.iconst 2, 1) := by decide +kernel
theorem dX3_endRound_29 : decode cX3_endRound 29 = .ok (.putfield 48, 3) := by decide +kernel
theorem dX3_endRound_32 : decode cX3_endRound 32 = .ok (.iconst (-1), 1) := by decide +kernel
theorem dX3_endRound_33 : decode cX3_endRound 33 = .ok (.ireturn, 1) := by decide +kernel
theorem dX3_endRound_34 : decode cX3_endRound 34 = .ok (.aload_n 0, 1) := by decide +kernel
theorem dX3_endRound_35 : decode cX3_endRound 35 = .ok (.getfield 25, 3) := by decide +kernel
theorem dX3_endRound_38 : decode cX3_endRound 38 = .ok (.iload_n 1, 1) := by decide +kernel
theorem dX3_endRound_39 : decode cX3_endRound 39 = .ok (.iaload, 1) := by decide +kernel
theorem dX3_endRound_40 : decode cX3_endRound 40 = .ok (.aload_n 0, 1) := by decide +kernel
theorem dX3_endRound_41 : decode cX3_endRound 41 = .ok (.getfield 97, 3) := by decide +kernel
theorem dX3_endRound_44 : decode cX3_endRound 44 = .ok (.iadd, 1) := by decide +kernel
theorem dX3_endRound_45 : decode cX3_endRound 45 = .ok (.aload_n 0, 1) := by decide +kernel
theorem dX3_endRound_46 : decode cX3_endRound 46 = .ok (.getfield 22, 3) := by decide +kernel
theorem dX3_endRound_49 : decode cX3_endRound 49 = .ok (.iload_n 1, 1) := by decide +kernel
theorem dX3_endRound_50 : decode cX3_endRound 50 = .ok (.iaload, 1) := by decide +kernel
theorem dX3_endRound_51 : decode cX3_endRound 51 = .ok (.if_icmp .gt 24, 3) := by decide +kernel
theorem dX3_endRound_54 : decode cX3_endRound 54 = .ok (.aload_n 0, 1) := by decide +kernel
theorem dX3_endRound_55 : decode cX3_endRound 55 = .ok (.getfield 28, 3) := by decide +kernel
theorem dX3_endRound_58 : decode cX3_endRound 58 = .ok (.iload_n 1, 1) := by decide +kernel
theorem dX3_endRound_59 : decode cX3_endRound 59 = .ok (.iaload, 1) := by decide +kernel
theorem dX3_endRound_60 : decode cX3_endRound 60 = .ok (.aload_n 0, 1) := by decide +kernel
theorem dX3_endRound_61 : decode cX3_endRound 61 = .ok (.iconst (-1), 1) := by decide +kernel
theorem dX3_endRound_62 : decode cX3_endRound 62 = .ok (.invokevirtual 103, 3) := by decide +kernel
theorem dX3_endRound_65 : decode cX3_endRound 65 = .ok (.iadd, 1) := by decide +kernel
theorem dX3_endRound_66 : decode cX3_endRound 66 = .ok (.bipush 60, 2) := by decide +kernel
theorem dX3_endRound_68 : decode cX3_endRound 68 = .ok (.if_icmp .gt 7, 3) := by decide +kernel
theorem dX3_endRound_71 : decode cX3_endRound 71 = .ok (.iconst 1, 1) := by decide +kernel
theorem dX3_endRound_72 : decode cX3_endRound 72 = .ok (.goto 4, 3) := by decide +kernel
theorem dX3_endRound_75 : decode cX3_endRound 75 = .ok (.iconst 0, 1) := by decide +kernel
theorem dX3_endRound_76 : decode cX3_endRound 76 = .ok (.istore_n 2, 1) := by decide +kernel
theorem dX3_endRound_77 : decode cX3_endRound 77 = .ok (.aload_n 0, 1) := by decide +kernel
theorem dX3_endRound_78 : decode cX3_endRound 78 = .ok (.iload_n 2, 1) := by decide +kernel
theorem dX3_endRound_79 : decode cX3_endRound 79 = .ok (.ifCond .eq 7, 3) := by decide +kernel
theorem dX3_endRound_82 : decode cX3_endRound 82 = .ok (.iconst 0, 1) := by decide +kernel
theorem dX3_endRound_83 : decode cX3_endRound 83 = .ok (.goto 4, 3) := by decide +kernel
theorem dX3_endRound_86 : decode cX3_endRound 86 = .ok (.iconst 3, 1) := by decide +kernel
theorem dX3_endRound_87 : decode cX3_endRound 87 = .ok (.putfield 48, 3) := by decide +kernel
theorem dX3_endRound_90 : decode cX3_endRound 90 = .ok (.aload_n 0, 1) := by decide +kernel
theorem dX3_endRound_91 : decode cX3_endRound 91 = .ok (.getfield 48, 3) := by decide +kernel
theorem dX3_endRound_94 : decode cX3_endRound 94 = .ok (.ifCond .le 5, 3) := by decide +kernel
theorem dX3_endRound_97 : decode cX3_endRound 97 = .ok (.iconst (-1), 1) := by decide +kernel
theorem dX3_endRound_98 : decode cX3_endRound 98 = .ok (.ireturn, 1) := by decide +kernel
theorem dX3_endRound_99 : decode cX3_endRound 99 = .ok (.aload_n 0, 1) := by decide +kernel
theorem dX3_endRound_100 : decode cX3_endRound 100 = .ok (.getfield 28, 3) := by decide +kernel
theorem dX3_endRound_103 : decode cX3_endRound 103 = .ok (.iload_n 1, 1) := by decide +kernel
theorem dX3_endRound_104 : decode cX3_endRound 104 = .ok (.dup2, 1) := by decide +kernel
theorem dX3_endRound_105 : decode cX3_endRound 105 = .ok (.iaload, 1) := by decide +kernel
theorem dX3_endRound_106 : decode cX3_endRound 106 = .ok (.aload_n 0, 1) := by decide +kernel
theorem dX3_endRound_107 : decode cX3_endRound 107 = .ok (.iconst (-1), 1) := by decide +kernel
theorem dX3_endRound_108 : decode cX3_endRound 108 = .ok (.invokevirtual 103, 3) := by decide +kernel
theorem dX3_endRound_111 : decode cX3_endRound 111 = .ok (.iadd, 1) := by decide +kernel
theorem dX3_endRound_112 : decode cX3_endRound 112 = .ok (.iastore, 1) := by decide +kernel
theorem dX3_endRound_113 : decode cX3_endRound 113 = .ok (.iconst 0, 1) := by decide +kernel
theorem dX3_endRound_114 : decode cX3_endRound 114 = .ok (.istore_n 3, 1) := by decide +kernel
theorem dX3_endRound_115 : decode cX3_endRound 115 = .ok (.iload_n 3, 1) := by decide +kernel
theorem dX3_endRound_116 : decode cX3_endRound 116 = .ok (.aload_n 0, 1) := by decide +kernel
theorem dX3_endRound_117 : decode cX3_endRound 117 = .ok (.getfield 94, 3) := by decide +kernel
theorem dX3_endRound_120 : decode cX3_endRound 120 = .ok (.if_icmp .ge 35, 3) := by decide +kernel
theorem dX3_endRound_123 : decode cX3_endRound 123 = .ok (.aload_n 0, 1) := by decide +kernel
theorem dX3_endRound_124 : decode cX3_endRound 124 = .ok (.getfield 45, 3) := by decide +kernel
theorem dX3_endRound_127 : decode cX3_endRound 127 = .ok (.iload_n 3, 1) := by decide +kernel
theorem dX3_endRound_128 : decode cX3_endRound 128 = .ok (.aload_n 0, 1) := by decide +kernel
theorem dX3_endRound_129 : decode cX3_endRound 129 = .ok (.getfield 45, 3) := by decide +kernel
theorem dX3_endRound_132 : decode cX3_endRound 132 = .ok (.iload_n 3, 1) := by decide +kernel
theorem dX3_endRound_133 : decode cX3_endRound 133 = .ok (.iaload, 1) := by decide +kernel
theorem dX3_endRound_134 : decode cX3_endRound 134 = .ok (.iconst (-1), 1) := by decide +kernel
theorem dX3_endRound_135 : decode cX3_endRound 135 = .ok (.if_icmp .ne 7, 3) := by decide +kernel
theorem dX3_endRound_138 : decode cX3_endRound 138 = .ok (.iload_n 1, 1) := by decide +kernel
theorem dX3_endRound_139 : decode cX3_endRound 139 = .ok (.goto 9, 3) := by decide +kernel
theorem dX3_endRound_142 : decode cX3_endRound 142 = .ok (.aload_n 0, 1) := by decide +kernel
theorem dX3_endRound_143 : decode cX3_endRound 143 = .ok (.getfield 45, 3) := by decide +kernel
theorem dX3_endRound_146 : decode cX3_endRound 146 = .ok (.iload_n 3, 1) := by decide +kernel
theorem dX3_endRound_147 : decode cX3_endRound 147 = .ok (.iaload, 1) := by decide +kernel
theorem dX3_endRound_148 : decode cX3_endRound 148 = .ok (.iastore, 1) := by decide +kernel
theorem dX3_endRound_149 : decode cX3_endRound 149 = .ok (.iinc 3 1, 3) := by decide +kernel
theorem dX3_endRound_152 : decode cX3_endRound 152 = .ok (.goto (-37), 3) := by decide +kernel
theorem dX3_endRound_155 : decode cX3_endRound 155 = .ok (.aload_n 0, 1) := by decide +kernel
theorem dX3_endRound_156 : decode cX3_endRound 156 = .ok (.getfield 25, 3) := by decide +kernel
theorem dX3_endRound_159 : decode cX3_endRound 159 = .ok (.iload_n 1, 1) := by decide +kernel
theorem dX3_endRound_160 : decode cX3_endRound 160 = .ok (.dup2, 1) := by decide +kernel
theorem dX3_endRound_161 : decode cX3_endRound 161 = .ok (.iaload, 1) := by decide +kernel
theorem dX3_endRound_162 : decode cX3_endRound 162 = .ok (.aload_n 0, 1) := by decide +kernel
theorem dX3_endRound_163 : decode cX3_endRound 163 = .ok (.getfield 97, 3) := by decide +kernel
theorem dX3_endRound_166 : decode cX3_endRound 166 = .ok (.iadd, 1) := by decide +kernel
theorem dX3_endRound_167 : decode cX3_endRound 167 = .ok (.iastore, 1) := by decide +kernel
theorem dX3_endRound_168 : decode cX3_endRound 168 = .ok (.aload_n 0, 1) := by decide +kernel
theorem dX3_endRound_169 : decode cX3_endRound 169 = .ok (.iconst 0, 1) := by decide +kernel
theorem dX3_endRound_170 : decode cX3_endRound 170 = .ok (.putfield 97, 3) := by decide +kernel
theorem dX3_endRound_173 : decode cX3_endRound 173 = .ok (.aload_n 0, 1) := by decide +kernel
theorem dX3_endRound_174 : decode cX3_endRound 174 = .ok (.iconst 0, 1) := by decide +kernel
theorem dX3_endRound_175 : decode cX3_endRound 175 = .ok (.putfield 87, 3) := by decide +kernel
theorem dX3_endRound_178 : decode cX3_endRound 178 = .ok (.aload_n 0, 1) := by decide +kernel
theorem dX3_endRound_179 : decode cX3_endRound 179 = .ok (.getfield 25, 3) := by decide +kernel
theorem dX3_endRound_182 : decode cX3_endRound 182 = .ok (.iload_n 1, 1) := by decide +kernel
theorem dX3_endRound_183 : decode cX3_endRound 183 = .ok (.iaload, 1) := by decide +kernel
theorem dX3_endRound_184 : decode cX3_endRound 184 = .ok (.ireturn, 1) := by decide +kernel
theorem dX3_inTanker_0 : decode cX3_inTanker 0 = .ok (.aload_n 0, 1) := by decide +kernel
theorem dX3_inTanker_1 : decode cX3_inTanker 1 = .ok (.iconst 0, 1) := by decide +kernel
theorem dX3_inTanker_2 : decode cX3_inTanker 2 = .ok (.putfield 48, 3) := by decide +kernel
theorem dX3_inTanker_5 : decode cX3_inTanker 5 = .ok (.aload_n 0, 1) := by decide +kernel
theorem dX3_inTanker_6 : decode cX3_inTanker 6 = .ok (.getfield 97, 3) := by decide +kernel
theorem dX3_inTanker_9 : decode cX3_inTanker 9 = .ok (.ireturn, 1) := by decide +kernel
theorem dX3_inVat_0 : decode cX3_inVat 0 = .ok (.aload_n 0, 1) := by decide +kernel
theorem dX3_inVat_1 : decode cX3_inVat 1 = .ok (.aload_n 0, 1) := by decide +kernel
theorem dX3_inVat_2 : decode cX3_inVat 2 = .ok (.iload_n 1, 1) := by decide +kernel
theorem dX3_inVat_3 : decode cX3_inVat 3 = .ok (.invokevirtual 100, 3) := by decide +kernel
theorem dX3_inVat_6 : decode cX3_inVat 6 = .ok (.ifCond .eq 7, 3) := by decide +kernel
theorem dX3_inVat_9 : decode cX3_inVat 9 = .ok (.iconst 0, 1) := by decide +kernel
theorem dX3_inVat_10 : decode cX3_inVat 10 = .ok (.goto 4, 3) := by decide +kernel
theorem dX3_inVat_13 : decode cX3_inVat 13 = .ok (.iconst 1, 1) := by decide +kernel
theorem dX3_inVat_14 : decode cX3_inVat 14 = .ok (.putfield 48, 3) := by decide +kernel
theorem dX3_inVat_17 : decode cX3_inVat 17 = .ok (.aload_n 0, 1) := by decide +kernel
theorem dX3_inVat_18 : decode cX3_inVat 18 = .ok (.getfield 48, 3) := by decide +kernel
theorem dX3_inVat_21 : decode cX3_inVat 21 = .ok (.ifCond .ne 12, 3) := by decide +kernel
theorem dX3_inVat_24 : decode cX3_inVat 24 = .ok (.aload_n 0, 1) := by decide +kernel
theorem dX3_inVat_25 : decode cX3_inVat 25 = .ok (.getfield 25, 3) := by decide +kernel
theorem dX3_inVat_28 : decode cX3_inVat 28 = .ok (.iload_n 1, 1) := by decide +kernel
theorem dX3_inVat_29 : decode cX3_inVat 29 = .ok (.iaload, 1) := by decide +kernel
theorem dX3_inVat_30 : decode cX3_inVat 30 = .ok (.goto 4, 3) := by decide +kernel
theorem dX3_inVat_33 : decode cX3_inVat 33 = .ok (.iconst (-1), 1) := by decide +kernel
theorem dX3_inVat_34 : decode cX3_inVat 34 = .ok (.ireturn, 1) := by decide +kernel
theorem dX3_bestVat_0 : decode cX3_bestVat 0 = .ok (.iconst (-1), 1) := by decide +kernel
theorem dX3_bestVat_1 : decode cX3_bestVat 1 = .ok (.istore_n 1, 1) := by decide +kernel
theorem dX3_bestVat_2 : decode cX3_bestVat 2 = .ok (.iconst 0, 1) := by decide +kernel
theorem dX3_bestVat_3 : decode cX3_bestVat 3 = .ok (.istore_n 2, 1) := by decide +kernel
theorem dX3_bestVat_4 : decode cX3_bestVat 4 = .ok (.iload_n 2, 1) := by decide +kernel
theorem dX3_bestVat_5 : decode cX3_bestVat 5 = .ok (.aload_n 0, 1) := by decide +kernel
theorem dX3_bestVat_6 : decode cX3_bestVat 6 = .ok (.getfield 84, 3) := by decide +kernel
theorem dX3_bestVat_9 : decode cX3_bestVat 9 = .ok (.if_icmp .ge 71, 3) := by decide +kernel
theorem dX3_bestVat_12 : decode cX3_bestVat 12 = .ok (.aload_n 0, 1) := by decide +kernel
theorem dX3_bestVat_13 : decode cX3_bestVat 13 = .ok (.getfield 22, 3) := by decide +kernel
theorem dX3_bestVat_16 : decode cX3_bestVat 16 = .ok (.iload_n 2, 1) := by decide +kernel
theorem dX3_bestVat_17 : decode cX3_bestVat 17 = .ok (.iaload, 1) := by decide +kernel
theorem dX3_bestVat_18 : decode cX3_bestVat 18 = .ok (.aload_n 0, 1) := by decide +kernel
theorem dX3_bestVat_19 : decode cX3_bestVat 19 = .ok (.getfield 25, 3) := by decide +kernel
theorem dX3_bestVat_22 : decode cX3_bestVat 22 = .ok (.iload_n 2, 1) := by decide +kernel
theorem dX3_bestVat_23 : decode cX3_bestVat 23 = .ok (.iaload, 1) := by decide +kernel
theorem dX3_bestVat_24 : decode cX3_bestVat 24 = .ok (.isub, 1) := by decide +kernel
theorem dX3_bestVat_25 : decode cX3_bestVat 25 = .ok (.istore_n 3, 1) := by decide +kernel
theorem dX3_bestVat_26 : decode cX3_bestVat 26 = .ok (.iload_n 3, 1) := by decide +kernel
theorem dX3_bestVat_27 : decode cX3_bestVat 27 = .ok (.aload_n 0, 1) := by decide +kernel
theorem dX3_bestVat_28 : decode cX3_bestVat 28 = .ok (.getfield 97, 3) := by decide +kernel
theorem dX3_bestVat_31 : decode cX3_bestVat 31 = .ok (.if_icmp .lt 29, 3) := by decide +kernel
theorem dX3_bestVat_34 : decode cX3_bestVat 34 = .ok (.iload_n 1, 1) := by decide +kernel
theorem dX3_bestVat_35 : decode cX3_bestVat 35 = .ok (.iconst (-1), 1) := by decide +kernel
theorem dX3_bestVat_36 : decode cX3_bestVat 36 = .ok (.if_icmp .eq 20, 3) := by decide +kernel
theorem dX3_bestVat_39 : decode cX3_bestVat 39 = .ok (.iload_n 3, 1) := by decide +kernel
theorem dX3_bestVat_40 : decode cX3_bestVat 40 = .ok (.aload_n 0, 1) := by decide +kernel
theorem dX3_bestVat_41 : decode cX3_bestVat 41 = .ok (.getfield 22, 3) := by decide +kernel
theorem dX3_bestVat_44 : decode cX3_bestVat 44 = .ok (.iload_n 1, 1) := by decide +kernel
theorem dX3_bestVat_45 : decode cX3_bestVat 45 = .ok (.iaload, 1) := by decide +kernel
theorem dX3_bestVat_46 : decode cX3_bestVat 46 = .ok (.aload_n 0, 1) := by decide +kernel
theorem dX3_bestVat_47 : decode cX3_bestVat 47 = .ok (.getfield 25, 3) := by decide +kernel
theorem dX3_bestVat_50 : decode cX3_bestVat 50 = .ok (.iload_n 1, 1) := by decide +kernel
theorem dX3_bestVat_51 : decode cX3_bestVat 51 = .ok (.iaload, 1) := by decide +kernel
theorem dX3_bestVat_52 : decode cX3_bestVat 52 = .ok (.isub, 1) := by decide +kernel
theorem dX3_bestVat_53 : decode cX3_bestVat 53 = .ok (.if_icmp .ge 7, 3) := by decide +kernel
theorem dX3_bestVat_56 : decode cX3_bestVat 56 = .ok (.iconst 1, 1) := by decide +kernel
theorem dX3_bestVat_57 : decode cX3_bestVat 57 = .ok (.goto 4, 3) := by decide +kernel
theorem dX3_bestVat_60 : decode cX3_bestVat 60 = .ok (.iconst 0, 1) := by decide +kernel
theorem dX3_bestVat_61 : decode cX3_bestVat 61 = .ok (.istore 4, 2) := by decide +kernel
theorem dX3_bestVat_63 : decode cX3_bestVat 63 = .ok (.iload 4, 2) := by decide +kernel
theorem dX3_bestVat_65 : decode cX3_bestVat 65 = .ok (.ifCond .eq 7, 3) := by decide +kernel
theorem dX3_bestVat_68 : decode cX3_bestVat 68 = .ok (.iload_n 2, 1) := by decide +kernel
theorem dX3_bestVat_69 : decode cX3_bestVat 69 = .ok (.goto 4, 3) := by decide +kernel
theorem dX3_bestVat_72 : decode cX3_bestVat 72 = .ok (.iload_n 1, 1) := by decide +kernel
theorem dX3_bestVat_73 : decode cX3_bestVat 73 = .ok (.istore_n 1, 1) := by decide +kernel
theorem dX3_bestVat_74 : decode cX3_bestVat 74 = .ok (.iinc 2 1, 3) := by decide +kernel
theorem dX3_bestVat_77 : decode cX3_bestVat 77 = .ok (.goto (-73), 3) := by decide +kernel
theorem dX3_bestVat_80 : decode cX3_bestVat 80 = .ok (.aload_n 0, 1) := by decide +kernel
theorem dX3_bestVat_81 : decode cX3_bestVat 81 = .ok (.iload_n 1, 1) := by decide +kernel
theorem dX3_bestVat_82 : decode cX3_bestVat 82 = .ok (.iconst (-1), 1) := by decide +kernel
theorem dX3_bestVat_83 : decode cX3_bestVat 83 = .ok (.if_icmp .ne 7, 3) := by decide +kernel
theorem dX3_bestVat_86 : decode cX3_bestVat 86 = .ok (.iconst 1, 1) := by decide +kernel
theorem dX3_bestVat_87 : decode cX3_bestVat 87 = .ok (.goto 4, 3) := by decide +kernel
theorem dX3_bestVat_90 : decode cX3_bestVat 90 = .ok (.iconst 0, 1) := by decide +kernel
theorem dX3_bestVat_91 : decode cX3_bestVat 91 = .ok (.putfield 48, 3) := by decide +kernel
theorem dX3_bestVat_94 : decode cX3_bestVat 94 = .ok (.iload_n 1, 1) := by decide +kernel
theorem dX3_bestVat_95 : decode cX3_bestVat 95 = .ok (.ireturn, 1) := by decide +kernel
theorem dX3_close_0 : decode cX3_close 0 = .ok (.aload_n 0, 1) := by decide +kernel
theorem dX3_close_1 : decode cX3_close 1 = .ok (.aload_n 0, 1) := by decide +kernel
theorem dX3_close_2 : decode cX3_close 2 = .ok (.iload_n 1, 1) := by decide +kernel
theorem dX3_close_3 : decode cX3_close 3 = .ok (.invokevirtual 100, 3) := by decide +kernel
theorem dX3_close_6 : decode cX3_close 6 = .ok (.ifCond .ne 7, 3) := by decide +kernel
theorem dX3_close_9 : decode cX3_close 9 = .ok (.iconst 1, 1) := by decide +kernel
theorem dX3_close_10 : decode cX3_close 10 = .ok (.goto 30, 3) := by decide +kernel
theorem dX3_close_13 : decode cX3_close 13 = .ok (.aload_n 0, 1) := by decide +kernel
theorem dX3_close_14 : decode cX3_close 14 = .ok (.getfield 25, 3) := by decide +kernel
theorem dX3_close_17 : decode cX3_close 17 = .ok (.iload_n 1, 1) := by decide +kernel
theorem dX3_close_18 : decode cX3_close 18 = .ok (.iaload, 1) := by decide +kernel
theorem dX3_close_19 : decode cX3_close 19 = .ok (.ifCond .ne 7, 3) := by decide +kernel
theorem dX3_close_22 : decode cX3_close 22 = .ok (.iconst 2, 1) := by decide +kernel
theorem dX3_close_23 : decode cX3_close 23 = .ok (.goto 17, 3) := by decide +kernel
theorem dX3_close_26 : decode cX3_close 26 = .ok (.aload_n 0, 1) := by decide +kernel
theorem dX3_close_27 : decode cX3_close 27 = .ok (.getfield 107, 3) := by decide +kernel
theorem dX3_close_30 : decode cX3_close 30 = .ok (.bipush 20, 2) := by decide +kernel
theorem dX3_close_32 : decode cX3_close 32 = .ok (.if_icmp .ne 7, 3) := by decide +kernel
theorem dX3_close_35 : decode cX3_close 35 = .ok (.iconst 3, 1) := by decide +kernel
theorem dX3_close_36 : decode cX3_close 36 = .ok (.goto 4, 3) := by decide +kernel
theorem dX3_close_39 : decode cX3_close 39 = .ok (.iconst 0, 1) := by decide +kernel
theorem dX3_close_40 : decode cX3_close 40 = .ok (.putfield 48, 3) := by decide +kernel
theorem dX3_close_43 : decode cX3_close 43 = .ok (.aload_n 0, 1) := by decide +kernel
theorem dX3_close_44 : decode cX3_close 44 = .ok (.getfield 48, 3) := by decide +kernel
theorem dX3_close_47 : decode cX3_close 47 = .ok (.ifCond .le 5, 3) := by decide +kernel
theorem dX3_close_50 : decode cX3_close 50 = .ok (.iconst (-1), 1) := by decide +kernel
theorem dX3_close_51 : decode cX3_close 51 = .ok (.ireturn, 1) := by decide +kernel
theorem dX3_close_52 : decode cX3_close 52 = .ok (.iconst 0, 1) := by decide +kernel
theorem dX3_close_53 : decode cX3_close 53 = .ok (.istore_n 2, 1) := by decide +kernel
theorem dX3_close_54 : decode cX3_close 54 = .ok (.iload_n 2, 1) := by decide +kernel
theorem dX3_close_55 : decode cX3_close 55 = .ok (.aload_n 0, 1) := by decide +kernel
theorem dX3_close_56 : decode cX3_close 56 = .ok (.getfield 94, 3) := by decide +kernel
theorem dX3_close_59 : decode cX3_close 59 = .ok (.if_icmp .ge 41, 3) := by decide +kernel
theorem dX3_close_62 : decode cX3_close 62 = .ok (.aload_n 0, 1) := by decide +kernel
theorem dX3_close_63 : decode cX3_close 63 = .ok (.getfield 45, 3) := by decide +kernel
theorem dX3_close_66 : decode cX3_close 66 = .ok (.iload_n 2, 1) := by decide +kernel
theorem dX3_close_67 : decode cX3_close 67 = .ok (.aload_n 0, 1) := by decide +kernel
theorem dX3_close_68 : decode cX3_close 68 = .ok (.getfield 45, 3) := by decide +kernel
theorem dX3_close_71 : decode cX3_close 71 = .ok (.iload_n 2, 1) := by decide +kernel
theorem dX3_close_72 : decode cX3_close 72 = .ok (.iaload, 1) := by decide +kernel
theorem dX3_close_73 : decode cX3_close 73 = .ok (.iload_n 1, 1) := by decide +kernel
theorem dX3_close_74 : decode cX3_close 74 = .ok (.if_icmp .ne 13, 3) := by decide +kernel
theorem dX3_close_77 : decode cX3_close 77 = .ok (.bipush 10, 2) := by decide +kernel
theorem dX3_close_79 : decode cX3_close 79 = .ok (.aload_n 0, 1) := by decide +kernel
theorem dX3_close_80 : decode cX3_close 80 = .ok (.getfield 107, 3) := by decide +kernel
theorem dX3_close_83 : decode cX3_close 83 = .ok (.iadd, 1) := by decide +kernel
theorem dX3_close_84 : decode cX3_close 84 = .ok (.goto 9, 3) := by decide +kernel
theorem dX3_close_87 : decode cX3_close 87 = .ok (.aload_n 0, 1) := by decide +kernel
theorem dX3_close_88 : decode cX3_close 88 = .ok (.getfield 45, 3) := by decide +kernel
theorem dX3_close_91 : decode cX3_close 91 = .ok (.iload_n 2, 1) := by decide +kernel
theorem dX3_close_92 : decode cX3_close 92 = .ok (.iaload, 1) := by decide +kernel
theorem dX3_close_93 : decode cX3_close 93 = .ok (.iastore, 1) := by decide +kernel
theorem dX3_close_94 : decode cX3_close 94 = .ok (.iinc 2 1, 3) := by decide +kernel
theorem dX3_close_97 : decode cX3_close 97 = .ok (.goto (-43), 3) := by decide +kernel
theorem dX3_close_100 : decode cX3_close 100 = .ok (.aload_n 0, 1) := by decide +kernel
theorem dX3_close_101 : decode cX3_close 101 = .ok (.getfield 25, 3) := by decide +kernel
theorem dX3_close_104 : decode cX3_close 104 = .ok (.iload_n 1, 1) := by decide +kernel
theorem dX3_close_105 : decode cX3_close 105 = .ok (.iconst 0, 1) := by decide +kernel
theorem dX3_close_106 : decode cX3_close 106 = .ok (.iastore, 1) := by decide +kernel
theorem dX3_close_107 : decode cX3_close 107 = .ok (.aload_n 0, 1) := by decide +kernel
theorem dX3_close_108 : decode cX3_close 108 = .ok (.getfield 28, 3) := by decide +kernel
theorem dX3_close_111 : decode cX3_close 111 = .ok (.iload_n 1, 1) := by decide +kernel
theorem dX3_close_112 : decode cX3_close 112 = .ok (.iconst 0, 1) := by decide +kernel
theorem dX3_close_113 : decode cX3_close 113 = .ok (.iastore, 1) := by decide +kernel
theorem dX3_close_114 : decode cX3_close 114 = .ok (.aload_n 0, 1) := by decide +kernel
theorem dX3_close_115 : decode cX3_close 115 = .ok (.dup, 1) := by decide +kernel
theorem dX3_close_116 : decode cX3_close 116 = .ok (.getfield 107, 3) := by decide +kernel
theorem dX3_close_119 : decode cX3_close 119 = .ok (.iconst 1, 1) := by decide +kernel
theorem dX3_close_120 : decode cX3_close 120 = .ok (.iadd, 1) := by decide +kernel
theorem dX3_close_121 : decode cX3_close 121 = .ok (.putfield 107, 3) := by decide +kernel
theorem dX3_close_124 : decode cX3_close 124 = .ok (.aload_n 0, 1) := by decide +kernel
theorem dX3_close_125 : decode cX3_close 125 = .ok (.getfield 107, 3) := by decide +kernel
theorem dX3_close_128 : decode cX3_close 128 = .ok (.iconst 1, 1) := by decide +kernel
theorem dX3_close_129 : decode cX3_close 129 = .ok (.isub, 1) := by decide +kernel
theorem dX3_close_130 : decode cX3_close 130 = .ok (.ireturn, 1) := by decide +kernel
theorem dX3_samples_0 : decode cX3_samples 0 = .ok (.aload_n 0, 1) := by decide +kernel
theorem dX3_samples_1 : decode cX3_samples 1 = .ok (.iconst 0, 1) := by decide +kernel
theorem dX3_samples_2 : decode cX3_samples 2 = .ok (.putfield 48, 3) := by decide +kernel
theorem dX3_samples_5 : decode cX3_samples 5 = .ok (.aload_n 0, 1) := by decide +kernel
theorem dX3_samples_6 : decode cX3_samples 6 = .ok (.getfield 94, 3) := by decide +kernel
theorem dX3_samples_9 : decode cX3_samples 9 = .ok (.ireturn, 1) := by decide +kernel
theorem dX3_isSample_0 : decode cX3_isSample 0 = .ok (.aload_n 0, 1) := by decide +kernel
theorem dX3_isSample_1 : decode cX3_isSample 1 = .ok (.iload_n 1, 1) := by decide +kernel
theorem dX3_isSample_2 : decode cX3_isSample 2 = .ok (.i2l, 1) := by decide +kernel
theorem dX3_isSample_3 : decode cX3_isSample 3 = .ok (.lconst 0, 1) := by decide +kernel
theorem dX3_isSample_4 : decode cX3_isSample 4 = .ok (.aload_n 0, 1) := by decide +kernel
theorem dX3_isSample_5 : decode cX3_isSample 5 = .ok (.getfield 94, 3) := by decide +kernel
theorem dX3_isSample_8 : decode cX3_isSample 8 = .ok (.iconst 1, 1) := by decide +kernel
theorem dX3_isSample_9 : decode cX3_isSample 9 = .ok (.isub, 1) := by decide +kernel
theorem dX3_isSample_10 : decode cX3_isSample 10 = .ok (.i2l, 1) := by decide +kernel
theorem dX3_isSample_11 : decode cX3_isSample 11 = .ok (.invokestatic 56, 3) := by decide +kernel
theorem dX3_isSample_14 : decode cX3_isSample 14 = .ok (.ifCond .eq 7, 3) := by decide +kernel
theorem dX3_isSample_17 : decode cX3_isSample 17 = .ok (.iconst 0, 1) := by decide +kernel
theorem dX3_isSample_18 : decode cX3_isSample 18 = .ok (.goto 4, 3) := by decide +kernel
theorem dX3_isSample_21 : decode cX3_isSample 21 = .ok (.iconst 1, 1) := by decide +kernel
theorem dX3_isSample_22 : decode cX3_isSample 22 = .ok (.putfield 48, 3) := by decide +kernel
theorem dX3_isSample_25 : decode cX3_isSample 25 = .ok (.aload_n 0, 1) := by decide +kernel
theorem dX3_isSample_26 : decode cX3_isSample 26 = .ok (.getfield 48, 3) := by decide +kernel
theorem dX3_isSample_29 : decode cX3_isSample 29 = .ok (.ifCond .ne 7, 3) := by decide +kernel
theorem dX3_isSample_32 : decode cX3_isSample 32 = .ok (.iconst 1, 1) := by decide +kernel
theorem dX3_isSample_33 : decode cX3_isSample 33 = .ok (.goto 4, 3) := by decide +kernel
theorem dX3_isSample_36 : decode cX3_isSample 36 = .ok (.iconst 0, 1) := by decide +kernel
theorem dX3_isSample_37 : decode cX3_isSample 37 = .ok (.ireturn, 1) := by decide +kernel
theorem dX3_farmOf_0 : decode cX3_farmOf 0 = .ok (.aload_n 0, 1) := by decide +kernel
theorem dX3_farmOf_1 : decode cX3_farmOf 1 = .ok (.iload_n 1, 1) := by decide +kernel
theorem dX3_farmOf_2 : decode cX3_farmOf 2 = .ok (.invokevirtual 110, 3) := by decide +kernel
theorem dX3_farmOf_5 : decode cX3_farmOf 5 = .ok (.ifCond .eq 12, 3) := by decide +kernel
theorem dX3_farmOf_8 : decode cX3_farmOf 8 = .ok (.aload_n 0, 1) := by decide +kernel
theorem dX3_farmOf_9 : decode cX3_farmOf 9 = .ok (.getfield 35, 3) := by decide +kernel
theorem dX3_farmOf_12 : decode cX3_farmOf 12 = .ok (.iload_n 1, 1) := by decide +kernel
theorem dX3_farmOf_13 : decode cX3_farmOf 13 = .ok (.iaload, 1) := by decide +kernel
theorem dX3_farmOf_14 : decode cX3_farmOf 14 = .ok (.goto 4, 3) := by decide +kernel
theorem dX3_farmOf_17 : decode cX3_farmOf 17 = .ok (.iconst (-1), 1) := by decide +kernel
theorem dX3_farmOf_18 : decode cX3_farmOf 18 = .ok (.ireturn, 1) := by decide +kernel
theorem dX3_litres_0 : decode cX3_litres 0 = .ok (.aload_n 0, 1) := by decide +kernel
theorem dX3_litres_1 : decode cX3_litres 1 = .ok (.iload_n 1, 1) := by decide +kernel
theorem dX3_litres_2 : decode cX3_litres 2 = .ok (.invokevirtual 110, 3) := by decide +kernel
theorem dX3_litres_5 : decode cX3_litres 5 = .ok (.ifCond .eq 12, 3) := by decide +kernel
theorem dX3_litres_8 : decode cX3_litres 8 = .ok (.aload_n 0, 1) := by decide +kernel
theorem dX3_litres_9 : decode cX3_litres 9 = .ok (.getfield 38, 3) := by decide +kernel
theorem dX3_litres_12 : decode cX3_litres 12 = .ok (.iload_n 1, 1) := by decide +kernel
theorem dX3_litres_13 : decode cX3_litres 13 = .ok (.iaload, 1) := by decide +kernel
theorem dX3_litres_14 : decode cX3_litres 14 = .ok (.goto 4, 3) := by decide +kernel
theorem dX3_litres_17 : decode cX3_litres 17 = .ok (.iconst (-1), 1) := by decide +kernel
theorem dX3_litres_18 : decode cX3_litres 18 = .ok (.ireturn, 1) := by decide +kernel
theorem dX3_grade_0 : decode cX3_grade 0 = .ok (.iload_n 2, 1) := by decide +kernel
theorem dX3_grade_1 : decode cX3_grade 1 = .ok (.bipush 97, 2) := by decide +kernel
theorem dX3_grade_3 : decode cX3_grade 3 = .ok (.if_icmp .eq 21, 3) := by decide +kernel
theorem dX3_grade_6 : decode cX3_grade 6 = .ok (.iload_n 2, 1) := by decide +kernel
theorem dX3_grade_7 : decode cX3_grade 7 = .ok (.bipush 98, 2) := by decide +kernel
theorem dX3_grade_9 : decode cX3_grade 9 = .ok (.if_icmp .eq 15, 3) := by decide +kernel
theorem dX3_grade_12 : decode cX3_grade 12 = .ok (.iload_n 2, 1) := by decide +kernel
theorem dX3_grade_13 : decode cX3_grade 13 = .ok (.bipush 99, 2) := by decide +kernel
theorem dX3_grade_15 : decode cX3_grade 15 = .ok (.if_icmp .eq 9, 3) := by decide +kernel
theorem dX3_grade_18 : decode cX3_grade 18 = .ok (.iload_n 2, 1) := by decide +kernel
theorem dX3_grade_19 : decode cX3_grade 19 = .ok (.bipush 120, 2) := by decide +kernel
theorem dX3_grade_21 : decode cX3_grade 21 = .ok (.if_icmp .ne 7, 3) := by decide +kernel
theorem dX3_grade_24 : decode cX3_grade 24 = .ok (.iconst 1, 1) := by decide +kernel
theorem dX3_grade_25 : decode cX3_grade 25 = .ok (.goto 4, 3) := by decide +kernel
theorem dX3_grade_28 : decode cX3_grade 28 = .ok (.iconst 0, 1) := by decide +kernel
theorem dX3_grade_29 : decode cX3_grade 29 = .ok (.istore_n 3, 1) := by decide +kernel
theorem dX3_grade_30 : decode cX3_grade 30 = .ok (.aload_n 0, 1) := by decide +kernel
theorem dX3_grade_31 : decode cX3_grade 31 = .ok (.iload_n 1, 1) := by decide +kernel
theorem dX3_grade_32 : decode cX3_grade 32 = .ok (.i2l, 1) := by decide +kernel
theorem dX3_grade_33 : decode cX3_grade 33 = .ok (.lconst 0, 1) := by decide +kernel
theorem dX3_grade_34 : decode cX3_grade 34 = .ok (.aload_n 0, 1) := by decide +kernel
theorem dX3_grade_35 : decode cX3_grade 35 = .ok (.getfield 94, 3) := by decide +kernel
theorem dX3_grade_38 : decode cX3_grade 38 = .ok (.iconst 1, 1) := by decide +kernel
theorem dX3_grade_39 : decode cX3_grade 39 = .ok (.isub, 1) := by decide +kernel
theorem dX3_grade_40 : decode cX3_grade 40 = .ok (.i2l, 1) := by decide +kernel
theorem dX3_grade_41 : decode cX3_grade 41 = .ok (.invokestatic 56, 3) := by decide +kernel
theorem dX3_grade_44 : decode cX3_grade 44 = .ok (.ifCond .ne 7, 3) := by decide +kernel
theorem dX3_grade_47 : decode cX3_grade 47 = .ok (.iconst 1, 1) := by decide +kernel
theorem dX3_grade_48 : decode cX3_grade 48 = .ok (.goto 27, 3) := by decide +kernel
theorem dX3_grade_51 : decode cX3_grade 51 = .ok (.iload_n 3, 1) := by decide +kernel
theorem dX3_grade_52 : decode cX3_grade 52 = .ok (.ifCond .ne 7, 3) := by decide +kernel
theorem dX3_grade_55 : decode cX3_grade 55 = .ok (.iconst 2, 1) := by decide +kernel
theorem dX3_grade_56 : decode cX3_grade 56 = .ok (.goto 19, 3) := by decide +kernel
theorem dX3_grade_59 : decode cX3_grade 59 = .ok (.aload_n 0, 1) := by decide +kernel
theorem dX3_grade_60 : decode cX3_grade 60 = .ok (.getfield 41, 3) := by decide +kernel
theorem dX3_grade_63 : decode cX3_grade 63 = .ok (.iload_n 1, 1) := by decide +kernel
theorem dX3_grade_64 : decode cX3_grade 64 = .ok (.caload, 1) := by decide +kernel
theorem dX3_grade_65 : decode cX3_grade 65 = .ok (.bipush 45, 2) := by decide +kernel
theorem dX3_grade_67 : decode cX3_grade 67 = .ok (.if_icmp .eq 7, 3) := by decide +kernel
theorem dX3_grade_70 : decode cX3_grade 70 = .ok (.iconst 3, 1) := by decide +kernel
theorem dX3_grade_71 : decode cX3_grade 71 = .ok (.goto 4, 3) := by decide +kernel
theorem dX3_grade_74 : decode cX3_grade 74 = .ok (.iconst 0, 1) := by decide +kernel
theorem dX3_grade_75 : decode cX3_grade 75 = .ok (.putfield 48, 3) := by decide +kernel
theorem dX3_grade_78 : decode cX3_grade 78 = .ok (.aload_n 0, 1) := by decide +kernel
theorem dX3_grade_79 : decode cX3_grade 79 = .ok (.getfield 48, 3) := by decide +kernel
theorem dX3_grade_82 : decode cX3_grade 82 = .ok (.ifCond .le 5, 3) := by decide +kernel
theorem dX3_grade_85 : decode cX3_grade 85 = .ok (.iconst (-1), 1) := by decide +kernel
theorem dX3_grade_86 : decode cX3_grade 86 = .ok (.ireturn, 1) := by decide +kernel
theorem dX3_grade_87 : decode cX3_grade 87 = .ok (.aload_n 0, 1) := by decide +kernel
theorem dX3_grade_88 : decode cX3_grade 88 = .ok (.getfield 41, 3) := by decide +kernel
theorem dX3_grade_91 : decode cX3_grade 91 = .ok (.iload_n 1, 1) := by decide +kernel
theorem dX3_grade_92 : decode cX3_grade 92 = .ok (.iload_n 2, 1) := by decide +kernel
theorem dX3_grade_93 : decode cX3_grade 93 = .ok (.castore, 1) := by decide +kernel
theorem dX3_grade_94 : decode cX3_grade 94 = .ok (.iconst 0, 1) := by decide +kernel
theorem dX3_grade_95 : decode cX3_grade 95 = .ok (.istore 4, 2) := by decide +kernel
theorem dX3_grade_97 : decode cX3_grade 97 = .ok (.iconst 0, 1) := by decide +kernel
theorem dX3_grade_98 : decode cX3_grade 98 = .ok (.istore 5, 2) := by decide +kernel
theorem dX3_grade_100 : decode cX3_grade 100 = .ok (.iload 5, 2) := by decide +kernel
theorem dX3_grade_102 : decode cX3_grade 102 = .ok (.aload_n 0, 1) := by decide +kernel
theorem dX3_grade_103 : decode cX3_grade 103 = .ok (.getfield 94, 3) := by decide +kernel
theorem dX3_grade_106 : decode cX3_grade 106 = .ok (.if_icmp .ge 31, 3) := by decide +kernel
theorem dX3_grade_109 : decode cX3_grade 109 = .ok (.iload 4, 2) := by decide +kernel
theorem dX3_grade_111 : decode cX3_grade 111 = .ok (.aload_n 0, 1) := by decide +kernel
theorem dX3_grade_112 : decode cX3_grade 112 = .ok (.getfield 41, 3) := by decide +kernel
theorem dX3_grade_115 : decode cX3_grade 115 = .ok (.iload 5, 2) := by decide +kernel
theorem dX3_grade_117 : decode cX3_grade 117 = .ok (.caload, 1) := by decide +kernel
theorem dX3_grade_118 : decode cX3_grade 118 = .ok (.bipush 45, 2) := by decide +kernel
theorem dX3_grade_120 : decode cX3_grade 120 = .ok (.if_icmp .ne 7, 3) := by decide +kernel
theorem dX3_grade_123 : decode cX3_grade 123 = .ok (.iconst 1, 1) := by decide +kernel
theorem dX3_grade_124 : decode cX3_grade 124 = .ok (.goto 4, 3) := by decide +kernel
theorem dX3_grade_127 : decode cX3_grade 127 = .ok (.iconst 0, 1) := by decide +kernel
theorem dX3_grade_128 : decode cX3_grade 128 = .ok (.iadd, 1) := by decide +kernel
theorem dX3_grade_129 : decode cX3_grade 129 = .ok (.istore 4, 2) := by decide +kernel
theorem dX3_grade_131 : decode cX3_grade 131 = .ok (.iinc 5 1, 3) := by decide +kernel
theorem dX3_grade_134 : decode cX3_grade 134 = .ok (.goto (-34), 3) := by decide +kernel
theorem dX3_grade_137 : decode cX3_grade 137 = .ok (.iload 4, 2) := by decide +kernel
theorem dX3_grade_139 : decode cX3_grade 139 = .ok (.ireturn, 1) := by decide +kernel
theorem dX3_gradeOf_0 : decode cX3_gradeOf 0 = .ok (.aload_n 0, 1) := by decide +kernel
theorem dX3_gradeOf_1 : decode cX3_gradeOf 1 = .ok (.iload_n 1, 1) := by decide +kernel
theorem dX3_gradeOf_2 : decode cX3_gradeOf 2 = .ok (.invokevirtual 110, 3) := by decide +kernel
theorem dX3_gradeOf_5 : decode cX3_gradeOf 5 = .ok (.ifCond .eq 12, 3) := by decide +kernel
theorem dX3_gradeOf_8 : decode cX3_gradeOf 8 = .ok (.aload_n 0, 1) := by decide +kernel
theorem dX3_gradeOf_9 : decode cX3_gradeOf 9 = .ok (.getfield 41, 3) := by decide +kernel
theorem dX3_gradeOf_12 : decode cX3_gradeOf 12 = .ok (.iload_n 1, 1) := by decide +kernel
theorem dX3_gradeOf_13 : decode cX3_gradeOf 13 = .ok (.caload, 1) := by decide +kernel
theorem dX3_gradeOf_14 : decode cX3_gradeOf 14 = .ok (.goto 5, 3) := by decide +kernel
theorem dX3_gradeOf_17 : decode cX3_gradeOf 17 = .ok (.bipush 32, 2) := by decide +kernel
theorem dX3_gradeOf_19 : decode cX3_gradeOf 19 = .ok (.ireturn, 1) := by decide +kernel
theorem dX3_batches_0 : decode cX3_batches 0 = .ok (.aload_n 0, 1) := by decide +kernel
theorem dX3_batches_1 : decode cX3_batches 1 = .ok (.iconst 0, 1) := by decide +kernel
theorem dX3_batches_2 : decode cX3_batches 2 = .ok (.putfield 48, 3) := by decide +kernel
theorem dX3_batches_5 : decode cX3_batches 5 = .ok (.aload_n 0, 1) := by decide +kernel
theorem dX3_batches_6 : decode cX3_batches 6 = .ok (.getfield 107, 3) := by decide +kernel
theorem dX3_batches_9 : decode cX3_batches 9 = .ok (.ireturn, 1) := by decide +kernel
theorem dX3_has_0 : decode cX3_has 0 = .ok (.iconst 0, 1) := by decide +kernel
theorem dX3_has_1 : decode cX3_has 1 = .ok (.istore_n 3, 1) := by decide +kernel
theorem dX3_has_2 : decode cX3_has 2 = .ok (.iconst 0, 1) := by decide +kernel
theorem dX3_has_3 : decode cX3_has 3 = .ok (.istore 4, 2) := by decide +kernel
theorem dX3_has_5 : decode cX3_has 5 = .ok (.iload 4, 2) := by decide +kernel
theorem dX3_has_7 : decode cX3_has 7 = .ok (.aload_n 0, 1) := by decide +kernel
theorem dX3_has_8 : decode cX3_has 8 = .ok (.getfield 94, 3) := by decide +kernel
theorem dX3_has_11 : decode cX3_has 11 = .ok (.if_icmp .ge 44, 3) := by decide +kernel
theorem dX3_has_14 : decode cX3_has 14 = .ok (.iload_n 3, 1) := by decide +kernel
theorem dX3_has_15 : decode cX3_has 15 = .ok (.ifCond .ne 28, 3) := by decide +kernel
theorem dX3_has_18 : decode cX3_has 18 = .ok (.aload_n 0, 1) := by decide +kernel
theorem dX3_has_19 : decode cX3_has 19 = .ok (.getfield 45, 3) := by decide +kernel
theorem dX3_has_22 : decode cX3_has 22 = .ok (.iload 4, 2) := by decide +kernel
theorem dX3_has_24 : decode cX3_has 24 = .ok (.iaload, 1) := by decide +kernel
theorem dX3_has_25 : decode cX3_has 25 = .ok (.bipush 10, 2) := by decide +kernel
theorem dX3_has_27 : decode cX3_has 27 = .ok (.iload_n 1, 1) := by decide +kernel
theorem dX3_has_28 : decode cX3_has 28 = .ok (.iadd, 1) := by decide +kernel
theorem dX3_has_29 : decode cX3_has 29 = .ok (.if_icmp .ne 18, 3) := by decide +kernel
theorem dX3_has_32 : decode cX3_has 32 = .ok (.aload_n 0, 1) := by decide +kernel
theorem dX3_has_33 : decode cX3_has 33 = .ok (.getfield 41, 3) := by decide +kernel
theorem dX3_has_36 : decode cX3_has 36 = .ok (.iload 4, 2) := by decide +kernel
theorem dX3_has_38 : decode cX3_has 38 = .ok (.caload, 1) := by decide +kernel
theorem dX3_has_39 : decode cX3_has 39 = .ok (.iload_n 2, 1) := by decide +kernel
theorem dX3_has_40 : decode cX3_has 40 = .ok (.if_icmp .ne 7, 3) := by decide +kernel
theorem dX3_has_43 : decode cX3_has 43 = .ok (.iconst 1, 1) := by decide +kernel
theorem dX3_has_44 : decode cX3_has 44 = .ok (.goto 4, 3) := by decide +kernel
theorem dX3_has_47 : decode cX3_has 47 = .ok (.iconst 0, 1) := by decide +kernel
theorem dX3_has_48 : decode cX3_has 48 = .ok (.istore_n 3, 1) := by decide +kernel
theorem dX3_has_49 : decode cX3_has 49 = .ok (.iinc 4 1, 3) := by decide +kernel
theorem dX3_has_52 : decode cX3_has 52 = .ok (.goto (-47), 3) := by decide +kernel
theorem dX3_has_55 : decode cX3_has 55 = .ok (.iload_n 3, 1) := by decide +kernel
theorem dX3_has_56 : decode cX3_has 56 = .ok (.ireturn, 1) := by decide +kernel
theorem dX3_isBatch_0 : decode cX3_isBatch 0 = .ok (.iload_n 1, 1) := by decide +kernel
theorem dX3_isBatch_1 : decode cX3_isBatch 1 = .ok (.i2l, 1) := by decide +kernel
theorem dX3_isBatch_2 : decode cX3_isBatch 2 = .ok (.lconst 0, 1) := by decide +kernel
theorem dX3_isBatch_3 : decode cX3_isBatch 3 = .ok (.aload_n 0, 1) := by decide +kernel
theorem dX3_isBatch_4 : decode cX3_isBatch 4 = .ok (.getfield 107, 3) := by decide +kernel
theorem dX3_isBatch_7 : decode cX3_isBatch 7 = .ok (.iconst 1, 1) := by decide +kernel
theorem dX3_isBatch_8 : decode cX3_isBatch 8 = .ok (.isub, 1) := by decide +kernel
theorem dX3_isBatch_9 : decode cX3_isBatch 9 = .ok (.i2l, 1) := by decide +kernel
theorem dX3_isBatch_10 : decode cX3_isBatch 10 = .ok (.invokestatic 56, 3) := by decide +kernel
theorem dX3_isBatch_13 : decode cX3_isBatch 13 = .ok (.ireturn, 1) := by decide +kernel
theorem dX3_stateOf_0 : decode cX3_stateOf 0 = .ok (.aload_n 0, 1) := by decide +kernel
theorem dX3_stateOf_1 : decode cX3_stateOf 1 = .ok (.aload_n 0, 1) := by decide +kernel
theorem dX3_stateOf_2 : decode cX3_stateOf 2 = .ok (.iload_n 1, 1) := by decide +kernel
theorem dX3_stateOf_3 : decode cX3_stateOf 3 = .ok (.invokevirtual 113, 3) := by decide +kernel
theorem dX3_stateOf_6 : decode cX3_stateOf 6 = .ok (.ifCond .eq 7, 3) := by decide +kernel
theorem dX3_stateOf_9 : decode cX3_stateOf 9 = .ok (.iconst 0, 1) := by decide +kernel
theorem dX3_stateOf_10 : decode cX3_stateOf 10 = .ok (.goto 4, 3) := by decide +kernel
theorem dX3_stateOf_13 : decode cX3_stateOf 13 = .ok (.iconst 1, 1) := by decide +kernel
theorem dX3_stateOf_14 : decode cX3_stateOf 14 = .ok (.putfield 48, 3) := by decide +kernel
theorem dX3_stateOf_17 : decode cX3_stateOf 17 = .ok (.aload_n 0, 1) := by decide +kernel
theorem dX3_stateOf_18 : decode cX3_stateOf 18 = .ok (.getfield 48, 3) := by decide +kernel
theorem dX3_stateOf_21 : decode cX3_stateOf 21 = .ok (.ifCond .le 8, 3) := by decide +kernel
theorem dX3_stateOf_24 : decode cX3_stateOf 24 = .ok (.bipush 32, 2) := by decide +kernel
theorem dX3_stateOf_26 : decode cX3_stateOf 26 = .ok (.goto 35, 3) := by decide +kernel
theorem dX3_stateOf_29 : decode cX3_stateOf 29 = .ok (.aload_n 0, 1) := by decide +kernel
theorem dX3_stateOf_30 : decode cX3_stateOf 30 = .ok (.iload_n 1, 1) := by decide +kernel
theorem dX3_stateOf_31 : decode cX3_stateOf 31 = .ok (.bipush 120, 2) := by decide +kernel
theorem dX3_stateOf_33 : decode cX3_stateOf 33 = .ok (.invokevirtual 116, 3) := by decide +kernel
theorem dX3_stateOf_36 : decode cX3_stateOf 36 = .ok (.ifCond .eq 8, 3) := by decide +kernel
theorem dX3_stateOf_39 : decode cX3_stateOf 39 = .ok (.bipush 120, 2) := by decide +kernel
theorem dX3_stateOf_41 : decode cX3_stateOf 41 = .ok (.goto 20, 3) := by decide +kernel
theorem dX3_stateOf_44 : decode cX3_stateOf 44 = .ok (.aload_n 0, 1) := by decide +kernel
theorem dX3_stateOf_45 : decode cX3_stateOf 45 = .ok (.iload_n 1, 1) := by decide +kernel
theorem dX3_stateOf_46 : decode cX3_stateOf 46 = .ok (.bipush 45, 2) := by decide +kernel
theorem dX3_stateOf_48 : decode cX3_stateOf 48 = .ok (.invokevirtual 116, 3) := by decide +kernel
theorem dX3_stateOf_51 : decode cX3_stateOf 51 = .ok (.ifCond .eq 8, 3) := by decide +kernel
theorem dX3_stateOf_54 : decode cX3_stateOf 54 = .ok (.bipush 119, 2) := by decide +kernel
theorem dX3_stateOf_56 : decode cX3_stateOf 56 = .ok (.goto 5, 3) := by decide +kernel
theorem dX3_stateOf_59 : decode cX3_stateOf 59 = .ok (.bipush 103, 2) := by decide +kernel
theorem dX3_stateOf_61 : decode cX3_stateOf 61 = .ok (.ireturn, 1) := by decide +kernel
theorem dX3_share_0 : decode cX3_share 0 = .ok (.aload_n 0, 1) := by decide +kernel
theorem dX3_share_1 : decode cX3_share 1 = .ok (.aload_n 0, 1) := by decide +kernel
theorem dX3_share_2 : decode cX3_share 2 = .ok (.iload_n 1, 1) := by decide +kernel
theorem dX3_share_3 : decode cX3_share 3 = .ok (.invokevirtual 113, 3) := by decide +kernel
theorem dX3_share_6 : decode cX3_share 6 = .ok (.ifCond .ne 7, 3) := by decide +kernel
theorem dX3_share_9 : decode cX3_share 9 = .ok (.iconst 1, 1) := by decide +kernel
theorem dX3_share_10 : decode cX3_share 10 = .ok (.goto 4, 3) := by decide +kernel
theorem dX3_share_13 : decode cX3_share 13 = .ok (.iconst 2, 1) := by decide +kernel
theorem dX3_share_14 : decode cX3_share 14 = .ok (.putfield 48, 3) := by decide +kernel
theorem dX3_share_17 : decode cX3_share 17 = .ok (.iconst 0, 1) := by decide +kernel
theorem dX3_share_18 : decode cX3_share 18 = .ok (.istore_n 3, 1) := by decide +kernel
theorem dX3_share_19 : decode cX3_share 19 = .ok (.iconst 0, 1) := by decide +kernel
theorem dX3_share_20 : decode cX3_share 20 = .ok (.istore 4, 2) := by decide +kernel
theorem dX3_share_22 : decode cX3_share 22 = .ok (.iload 4, 2) := by decide +kernel
theorem dX3_share_24 : decode cX3_share 24 = .ok (.aload_n 0, 1) := by decide +kernel
theorem dX3_share_25 : decode cX3_share 25 = .ok (.getfield 94, 3) := by decide +kernel
theorem dX3_share_28 : decode cX3_share 28 = .ok (.if_icmp .ge 47, 3) := by decide +kernel
theorem dX3_share_31 : decode cX3_share 31 = .ok (.aload_n 0, 1) := by decide +kernel
theorem dX3_share_32 : decode cX3_share 32 = .ok (.getfield 48, 3) := by decide +kernel
theorem dX3_share_35 : decode cX3_share 35 = .ok (.iconst 2, 1) := by decide +kernel
theorem dX3_share_36 : decode cX3_share 36 = .ok (.if_icmp .ne 39, 3) := by decide +kernel
theorem dX3_share_39 : decode cX3_share 39 = .ok (.aload_n 0, 1) := by decide +kernel
theorem dX3_share_40 : decode cX3_share 40 = .ok (.getfield 45, 3) := by decide +kernel
theorem dX3_share_43 : decode cX3_share 43 = .ok (.iload 4, 2) := by decide +kernel
theorem dX3_share_45 : decode cX3_share 45 = .ok (.iaload, 1) := by decide +kernel
theorem dX3_share_46 : decode cX3_share 46 = .ok (.bipush 10, 2) := by decide +kernel
theorem dX3_share_48 : decode cX3_share 48 = .ok (.iload_n 1, 1) := by decide +kernel
theorem dX3_share_49 : decode cX3_share 49 = .ok (.iadd, 1) := by decide +kernel
theorem dX3_share_50 : decode cX3_share 50 = .ok (.if_icmp .ne 19, 3) := by decide +kernel
theorem dX3_share_53 : decode cX3_share 53 = .ok (.iload_n 3, 1) := by decide +kernel
theorem dX3_share_54 : decode cX3_share 54 = .ok (.iload_n 2, 1) := by decide +kernel
theorem dX3_share_55 : decode cX3_share 55 = .ok (.if_icmp .ne 11, 3) := by decide +kernel
theorem dX3_share_58 : decode cX3_share 58 = .ok (.aload_n 0, 1) := by decide +kernel
theorem dX3_share_59 : decode cX3_share 59 = .ok (.iconst 0, 1) := by decide +kernel
theorem dX3_share_60 : decode cX3_share 60 = .ok (.putfield 48, 3) := by decide +kernel
theorem dX3_share_63 : decode cX3_share 63 = .ok (.iload 4, 2) := by decide +kernel
theorem dX3_share_65 : decode cX3_share 65 = .ok (.ireturn, 1) := by decide +kernel
theorem dX3_share_66 : decode cX3_share 66 = .ok (.iinc 3 1, 3) := by decide +kernel
theorem dX3_share_69 : decode cX3_share 69 = .ok (.iinc 4 1, 3) := by decide +kernel
theorem dX3_share_72 : decode cX3_share 72 = .ok (.goto (-50), 3) := by decide +kernel
theorem dX3_share_75 : decode cX3_share 75 = .ok (.iconst (-1), 1) := by decide +kernel
theorem dX3_share_76 : decode cX3_share 76 = .ok (.ireturn, 1) := by decide +kernel
theorem dX3_worthOf_0 : decode cX3_worthOf 0 = .ok (.aload_n 0, 1) := by decide +kernel
theorem dX3_worthOf_1 : decode cX3_worthOf 1 = .ok (.getfield 41, 3) := by decide +kernel
theorem dX3_worthOf_4 : decode cX3_worthOf 4 = .ok (.iload_n 1, 1) := by decide +kernel
theorem dX3_worthOf_5 : decode cX3_worthOf 5 = .ok (.caload, 1) := by decide +kernel
theorem dX3_worthOf_6 : decode cX3_worthOf 6 = .ok (.bipush 97, 2) := by decide +kernel
theorem dX3_worthOf_8 : decode cX3_worthOf 8 = .ok (.if_icmp .ne 8, 3) := by decide +kernel
theorem dX3_worthOf_11 : decode cX3_worthOf 11 = .ok (.bipush 40, 2) := by decide +kernel
theorem dX3_worthOf_13 : decode cX3_worthOf 13 = .ok (.goto 36, 3) := by decide +kernel
theorem dX3_worthOf_16 : decode cX3_worthOf 16 = .ok (.aload_n 0, 1) := by decide +kernel
theorem dX3_worthOf_17 : decode cX3_worthOf 17 = .ok (.getfield 41, 3) := by decide +kernel
theorem dX3_worthOf_20 : decode cX3_worthOf 20 = .ok (.iload_n 1, 1) := by decide +kernel
theorem dX3_worthOf_21 : decode cX3_worthOf 21 = .ok (.caload, 1) := by decide +kernel
theorem dX3_worthOf_22 : decode cX3_worthOf 22 = .ok (.bipush 98, 2) := by decide +kernel
theorem dX3_worthOf_24 : decode cX3_worthOf 24 = .ok (.if_icmp .ne 8, 3) := by decide +kernel
theorem dX3_worthOf_27 : decode cX3_worthOf 27 = .ok (.bipush 34, 2) := by decide +kernel
theorem dX3_worthOf_29 : decode cX3_worthOf 29 = .ok (.goto 20, 3) := by decide +kernel
theorem dX3_worthOf_32 : decode cX3_worthOf 32 = .ok (.aload_n 0, 1) := by decide +kernel
theorem dX3_worthOf_33 : decode cX3_worthOf 33 = .ok (.getfield 41, 3) := by decide +kernel
theorem dX3_worthOf_36 : decode cX3_worthOf 36 = .ok (.iload_n 1, 1) := by decide +kernel
theorem dX3_worthOf_37 : decode cX3_worthOf 37 = .ok (.caload, 1) := by decide +kernel
theorem dX3_worthOf_38 : decode cX3_worthOf 38 = .ok (.bipush 99, 2) := by decide +kernel
theorem dX3_worthOf_40 : decode cX3_worthOf 40 = .ok (.if_icmp .ne 8, 3) := by decide +kernel
theorem dX3_worthOf_43 : decode cX3_worthOf 43 = .ok (.bipush 25, 2) := by decide +kernel
theorem dX3_worthOf_45 : decode cX3_worthOf 45 = .ok (.goto 4, 3) := by decide +kernel
theorem dX3_worthOf_48 : decode cX3_worthOf 48 = .ok (.iconst 0, 1) := by decide +kernel
theorem dX3_worthOf_49 : decode cX3_worthOf 49 = .ok (.istore_n 2, 1) := by decide +kernel
theorem dX3_worthOf_50 : decode cX3_worthOf 50 = .ok (.iload_n 2, 1) := by decide +kernel
theorem dX3_worthOf_51 : decode cX3_worthOf 51 = .ok (.aload_n 0, 1) := by decide +kernel
theorem dX3_worthOf_52 : decode cX3_worthOf 52 = .ok (.getfield 38, 3) := by decide +kernel
theorem dX3_worthOf_55 : decode cX3_worthOf 55 = .ok (.iload_n 1, 1) := by decide +kernel
theorem dX3_worthOf_56 : decode cX3_worthOf 56 = .ok (.iaload, 1) := by decide +kernel
theorem dX3_worthOf_57 : decode cX3_worthOf 57 = .ok (.imul, 1) := by decide +kernel
theorem dX3_worthOf_58 : decode cX3_worthOf 58 = .ok (.ireturn, 1) := by decide +kernel
theorem dX3_payOf_0 : decode cX3_payOf 0 = .ok (.aload_n 0, 1) := by decide +kernel
theorem dX3_payOf_1 : decode cX3_payOf 1 = .ok (.getfield 45, 3) := by decide +kernel
theorem dX3_payOf_4 : decode cX3_payOf 4 = .ok (.iload_n 1, 1) := by decide +kernel
theorem dX3_payOf_5 : decode cX3_payOf 5 = .ok (.iaload, 1) := by decide +kernel
theorem dX3_payOf_6 : decode cX3_payOf 6 = .ok (.bipush 10, 2) := by decide +kernel
theorem dX3_payOf_8 : decode cX3_payOf 8 = .ok (.if_icmp .lt 29, 3) := by decide +kernel
theorem dX3_payOf_11 : decode cX3_payOf 11 = .ok (.aload_n 0, 1) := by decide +kernel
theorem dX3_payOf_12 : decode cX3_payOf 12 = .ok (.aload_n 0, 1) := by decide +kernel
theorem dX3_payOf_13 : decode cX3_payOf 13 = .ok (.getfield 45, 3) := by decide +kernel
theorem dX3_payOf_16 : decode cX3_payOf 16 = .ok (.iload_n 1, 1) := by decide +kernel
theorem dX3_payOf_17 : decode cX3_payOf 17 = .ok (.iaload, 1) := by decide +kernel
theorem dX3_payOf_18 : decode cX3_payOf 18 = .ok (.bipush 10, 2) := by decide +kernel
theorem dX3_payOf_20 : decode cX3_payOf 20 = .ok (.isub, 1) := by decide +kernel
theorem dX3_payOf_21 : decode cX3_payOf 21 = .ok (.bipush 120, 2) := by decide +kernel
theorem dX3_payOf_23 : decode cX3_payOf 23 = .ok (.invokevirtual 116, 3) := by decide +kernel
theorem dX3_payOf_26 : decode cX3_payOf 26 = .ok (.ifCond .ne 11, 3) := by decide +kernel
theorem dX3_payOf_29 : decode cX3_payOf 29 = .ok (.aload_n 0, 1) := by decide +kernel
theorem dX3_payOf_30 : decode cX3_payOf 30 = .ok (.iload_n 1, 1) := by decide +kernel
theorem dX3_payOf_31 : decode cX3_payOf 31 = .ok (.invokevirtual 120, 3) := by decide +kernel
theorem dX3_payOf_34 : decode cX3_payOf 34 = .ok (.goto 4, 3) := by decide +kernel
theorem dX3_payOf_37 : decode cX3_payOf 37 = .ok (.iconst 0, 1) := by decide +kernel
theorem dX3_payOf_38 : decode cX3_payOf 38 = .ok (.ireturn, 1) := by decide +kernel
theorem dX3_lossOf_0 : decode cX3_lossOf 0 = .ok (.iconst 0, 1) := by decide +kernel
theorem dX3_lossOf_1 : decode cX3_lossOf 1 = .ok (.istore_n 2, 1) := by decide +kernel
theorem dX3_lossOf_2 : decode cX3_lossOf 2 = .ok (.iconst 0, 1) := by decide +kernel
theorem dX3_lossOf_3 : decode cX3_lossOf 3 = .ok (.istore_n 3, 1) := by decide +kernel
theorem dX3_lossOf_4 : decode cX3_lossOf 4 = .ok (.iload_n 3, 1) := by decide +kernel
theorem dX3_lossOf_5 : decode cX3_lossOf 5 = .ok (.aload_n 0, 1) := by decide +kernel
theorem dX3_lossOf_6 : decode cX3_lossOf 6 = .ok (.getfield 94, 3) := by decide +kernel
theorem dX3_lossOf_9 : decode cX3_lossOf 9 = .ok (.if_icmp .ge 34, 3) := by decide +kernel
theorem dX3_lossOf_12 : decode cX3_lossOf 12 = .ok (.iload_n 2, 1) := by decide +kernel
theorem dX3_lossOf_13 : decode cX3_lossOf 13 = .ok (.aload_n 0, 1) := by decide +kernel
theorem dX3_lossOf_14 : decode cX3_lossOf 14 = .ok (.getfield 45, 3) := by decide +kernel
theorem dX3_lossOf_17 : decode cX3_lossOf 17 = .ok (.iload_n 3, 1) := by decide +kernel
theorem dX3_lossOf_18 : decode cX3_lossOf 18 = .ok (.iaload, 1) := by decide +kernel
theorem dX3_lossOf_19 : decode cX3_lossOf 19 = .ok (.bipush 10, 2) := by decide +kernel
theorem dX3_lossOf_21 : decode cX3_lossOf 21 = .ok (.iload_n 1, 1) := by decide +kernel
theorem dX3_lossOf_22 : decode cX3_lossOf 22 = .ok (.iadd, 1) := by decide +kernel
theorem dX3_lossOf_23 : decode cX3_lossOf 23 = .ok (.if_icmp .ne 11, 3) := by decide +kernel
theorem dX3_lossOf_26 : decode cX3_lossOf 26 = .ok (.aload_n 0, 1) := by decide +kernel
theorem dX3_lossOf_27 : decode cX3_lossOf 27 = .ok (.iload_n 3, 1) := by decide +kernel
theorem dX3_lossOf_28 : decode cX3_lossOf 28 = .ok (.invokevirtual 120, 3) := by decide +kernel
theorem dX3_lossOf_31 : decode cX3_lossOf 31 = .ok (.goto 4, 3) := by decide +kernel
theorem dX3_lossOf_34 : decode cX3_lossOf 34 = .ok (.iconst 0, 1) := by decide +kernel
theorem dX3_lossOf_35 : decode cX3_lossOf 35 = .ok (.iadd, 1) := by decide +kernel
theorem dX3_lossOf_36 : decode cX3_lossOf 36 = .ok (.istore_n 2, 1) := by decide +kernel
theorem dX3_lossOf_37 : decode cX3_lossOf 37 = .ok (.iinc 3 1, 3) := by decide +kernel
theorem dX3_lossOf_40 : decode cX3_lossOf 40 = .ok (.goto (-36), 3) := by decide +kernel
theorem dX3_lossOf_43 : decode cX3_lossOf 43 = .ok (.aload_n 0, 1) := by decide +kernel
theorem dX3_lossOf_44 : decode cX3_lossOf 44 = .ok (.iload_n 1, 1) := by decide +kernel
theorem dX3_lossOf_45 : decode cX3_lossOf 45 = .ok (.bipush 120, 2) := by decide +kernel
theorem dX3_lossOf_47 : decode cX3_lossOf 47 = .ok (.invokevirtual 116, 3) := by decide +kernel
theorem dX3_lossOf_50 : decode cX3_lossOf 50 = .ok (.ifCond .eq 7, 3) := by decide +kernel
theorem dX3_lossOf_53 : decode cX3_lossOf 53 = .ok (.iload_n 2, 1) := by decide +kernel
theorem dX3_lossOf_54 : decode cX3_lossOf 54 = .ok (.goto 4, 3) := by decide +kernel
theorem dX3_lossOf_57 : decode cX3_lossOf 57 = .ok (.iconst 0, 1) := by decide +kernel
theorem dX3_lossOf_58 : decode cX3_lossOf 58 = .ok (.ireturn, 1) := by decide +kernel
theorem dX3_blameOf_0 : decode cX3_blameOf 0 = .ok (.aload_n 0, 1) := by decide +kernel
theorem dX3_blameOf_1 : decode cX3_blameOf 1 = .ok (.getfield 45, 3) := by decide +kernel
theorem dX3_blameOf_4 : decode cX3_blameOf 4 = .ok (.iload_n 1, 1) := by decide +kernel
theorem dX3_blameOf_5 : decode cX3_blameOf 5 = .ok (.iaload, 1) := by decide +kernel
theorem dX3_blameOf_6 : decode cX3_blameOf 6 = .ok (.bipush 10, 2) := by decide +kernel
theorem dX3_blameOf_8 : decode cX3_blameOf 8 = .ok (.if_icmp .lt 14, 3) := by decide +kernel
theorem dX3_blameOf_11 : decode cX3_blameOf 11 = .ok (.aload_n 0, 1) := by decide +kernel
theorem dX3_blameOf_12 : decode cX3_blameOf 12 = .ok (.getfield 41, 3) := by decide +kernel
theorem dX3_blameOf_15 : decode cX3_blameOf 15 = .ok (.iload_n 1, 1) := by decide +kernel
theorem dX3_blameOf_16 : decode cX3_blameOf 16 = .ok (.caload, 1) := by decide +kernel
theorem dX3_blameOf_17 : decode cX3_blameOf 17 = .ok (.bipush 120, 2) := by decide +kernel
theorem dX3_blameOf_19 : decode cX3_blameOf 19 = .ok (.if_icmp .eq 5, 3) := by decide +kernel
theorem dX3_blameOf_22 : decode cX3_blameOf 22 = .ok (.iconst 0, 1) := by decide +kernel
theorem dX3_blameOf_23 : decode cX3_blameOf 23 = .ok (.ireturn, 1) := by decide +kernel
theorem dX3_blameOf_24 : decode cX3_blameOf 24 = .ok (.aload_n 0, 1) := by decide +kernel
theorem dX3_blameOf_25 : decode cX3_blameOf 25 = .ok (.getfield 45, 3) := by decide +kernel
theorem dX3_blameOf_28 : decode cX3_blameOf 28 = .ok (.iload_n 1, 1) := by decide +kernel
theorem dX3_blameOf_29 : decode cX3_blameOf 29 = .ok (.iaload, 1) := by decide +kernel
theorem dX3_blameOf_30 : decode cX3_blameOf 30 = .ok (.bipush 10, 2) := by decide +kernel
theorem dX3_blameOf_32 : decode cX3_blameOf 32 = .ok (.isub, 1) := by decide +kernel
theorem dX3_blameOf_33 : decode cX3_blameOf 33 = .ok (.istore_n 2, 1) := by decide +kernel
theorem dX3_blameOf_34 : decode cX3_blameOf 34 = .ok (.aload_n 0, 1) := by decide +kernel
theorem dX3_blameOf_35 : decode cX3_blameOf 35 = .ok (.iload_n 2, 1) := by decide +kernel
theorem dX3_blameOf_36 : decode cX3_blameOf 36 = .ok (.invokevirtual 123, 3) := by decide +kernel
theorem dX3_blameOf_39 : decode cX3_blameOf 39 = .ok (.istore_n 3, 1) := by decide +kernel
theorem dX3_blameOf_40 : decode cX3_blameOf 40 = .ok (.iconst 0, 1) := by decide +kernel
theorem dX3_blameOf_41 : decode cX3_blameOf 41 = .ok (.istore 4, 2) := by decide +kernel
theorem dX3_blameOf_43 : decode cX3_blameOf 43 = .ok (.iconst 0, 1) := by decide +kernel
theorem dX3_blameOf_44 : decode cX3_blameOf 44 = .ok (.istore 5, 2) := by decide +kernel
theorem dX3_blameOf_46 : decode cX3_blameOf 46 = .ok (.iload 5, 2) := by decide +kernel
theorem dX3_blameOf_48 : decode cX3_blameOf 48 = .ok (.aload_n 0, 1) := by decide +kernel
theorem dX3_blameOf_49 : decode cX3_blameOf 49 = .ok (.getfield 94, 3) := by decide +kernel
theorem dX3_blameOf_52 : decode cX3_blameOf 52 = .ok (.if_icmp .ge 53, 3) := by decide +kernel
theorem dX3_blameOf_55 : decode cX3_blameOf 55 = .ok (.iload 4, 2) := by decide +kernel
theorem dX3_blameOf_57 : decode cX3_blameOf 57 = .ok (.aload_n 0, 1) := by decide +kernel
theorem dX3_blameOf_58 : decode cX3_blameOf 58 = .ok (.getfield 45, 3) := by decide +kernel
theorem dX3_blameOf_61 : decode cX3_blameOf 61 = .ok (.iload 5, 2) := by decide +kernel
theorem dX3_blameOf_63 : decode cX3_blameOf 63 = .ok (.iaload, 1) := by decide +kernel
theorem dX3_blameOf_64 : decode cX3_blameOf 64 = .ok (.aload_n 0, 1) := by decide +kernel
theorem dX3_blameOf_65 : decode cX3_blameOf 65 = .ok (.getfield 45, 3) := by decide +kernel
theorem dX3_blameOf_68 : decode cX3_blameOf 68 = .ok (.iload_n 1, 1) := by decide +kernel
theorem dX3_blameOf_69 : decode cX3_blameOf 69 = .ok (.iaload, 1) := by decide +kernel
theorem dX3_blameOf_70 : decode cX3_blameOf 70 = .ok (.if_icmp .ne 25, 3) := by decide +kernel
theorem dX3_blameOf_73 : decode cX3_blameOf 73 = .ok (.aload_n 0, 1) := by decide +kernel
theorem dX3_blameOf_74 : decode cX3_blameOf 74 = .ok (.getfield 41, 3) := by decide +kernel
theorem dX3_blameOf_77 : decode cX3_blameOf 77 = .ok (.iload 5, 2) := by decide +kernel
theorem dX3_blameOf_79 : decode cX3_blameOf 79 = .ok (.caload, 1) := by decide +kernel
theorem dX3_blameOf_80 : decode cX3_blameOf 80 = .ok (.bipush 120, 2) := by decide +kernel
theorem dX3_blameOf_82 : decode cX3_blameOf 82 = .ok (.if_icmp .ne 13, 3) := by decide +kernel
theorem dX3_blameOf_85 : decode cX3_blameOf 85 = .ok (.aload_n 0, 1) := by decide +kernel
theorem dX3_blameOf_86 : decode cX3_blameOf 86 = .ok (.getfield 38, 3) := by decide +kernel
theorem dX3_blameOf_89 : decode cX3_blameOf 89 = .ok (.iload 5, 2) := by decide +kernel
theorem dX3_blameOf_91 : decode cX3_blameOf 91 = .ok (.iaload, 1) := by decide +kernel
theorem dX3_blameOf_92 : decode cX3_blameOf 92 = .ok (.goto 4, 3) := by decide +kernel
theorem dX3_blameOf_95 : decode cX3_blameOf 95 = .ok (.iconst 0, 1) := by decide +kernel
theorem dX3_blameOf_96 : decode cX3_blameOf 96 = .ok (.iadd, 1) := by decide +kernel
theorem dX3_blameOf_97 : decode cX3_blameOf 97 = .ok (.istore 4, 2) := by decide +kernel
theorem dX3_blameOf_99 : decode cX3_blameOf 99 = .ok (.iinc 5 1, 3) := by decide +kernel
theorem dX3_blameOf_102 : decode cX3_blameOf 102 = .ok (.goto (-56), 3) := by decide +kernel
theorem dX3_blameOf_105 : decode cX3_blameOf 105 = .ok (.iload_n 3, 1) := by decide +kernel
theorem dX3_blameOf_106 : decode cX3_blameOf 106 = .ok (.istore 5, 2) := by decide +kernel
theorem dX3_blameOf_108 : decode cX3_blameOf 108 = .ok (.iconst 0, 1) := by decide +kernel
theorem dX3_blameOf_109 : decode cX3_blameOf 109 = .ok (.istore 6, 2) := by decide +kernel
theorem dX3_blameOf_111 : decode cX3_blameOf 111 = .ok (.iconst 0, 1) := by decide +kernel
theorem dX3_blameOf_112 : decode cX3_blameOf 112 = .ok (.istore 7, 2) := by decide +kernel
theorem dX3_blameOf_114 : decode cX3_blameOf 114 = .ok (.iload 7, 2) := by decide +kernel
theorem dX3_blameOf_116 : decode cX3_blameOf 116 = .ok (.aload_n 0, 1) := by decide +kernel
theorem dX3_blameOf_117 : decode cX3_blameOf 117 = .ok (.getfield 94, 3) := by decide +kernel
theorem dX3_blameOf_120 : decode cX3_blameOf 120 = .ok (.if_icmp .ge 91, 3) := by decide +kernel
theorem dX3_blameOf_123 : decode cX3_blameOf 123 = .ok (.aload_n 0, 1) := by decide +kernel
theorem dX3_blameOf_124 : decode cX3_blameOf 124 = .ok (.getfield 45, 3) := by decide +kernel
theorem dX3_blameOf_127 : decode cX3_blameOf 127 = .ok (.iload 7, 2) := by decide +kernel
theorem dX3_blameOf_129 : decode cX3_blameOf 129 = .ok (.iaload, 1) := by decide +kernel
theorem dX3_blameOf_130 : decode cX3_blameOf 130 = .ok (.aload_n 0, 1) := by decide +kernel
theorem dX3_blameOf_131 : decode cX3_blameOf 131 = .ok (.getfield 45, 3) := by decide +kernel
theorem dX3_blameOf_134 : decode cX3_blameOf 134 = .ok (.iload_n 1, 1) := by decide +kernel
theorem dX3_blameOf_135 : decode cX3_blameOf 135 = .ok (.iaload, 1) := by decide +kernel
theorem dX3_blameOf_136 : decode cX3_blameOf 136 = .ok (.if_icmp .ne 19, 3) := by decide +kernel
theorem dX3_blameOf_139 : decode cX3_blameOf 139 = .ok (.aload_n 0, 1) := by decide +kernel
theorem dX3_blameOf_140 : decode cX3_blameOf 140 = .ok (.getfield 41, 3) := by decide +kernel
theorem dX3_blameOf_143 : decode cX3_blameOf 143 = .ok (.iload 7, 2) := by decide +kernel
theorem dX3_blameOf_145 : decode cX3_blameOf 145 = .ok (.caload, 1) := by decide +kernel
theorem dX3_blameOf_146 : decode cX3_blameOf 146 = .ok (.bipush 120, 2) := by decide +kernel
theorem dX3_blameOf_148 : decode cX3_blameOf 148 = .ok (.if_icmp .ne 7, 3) := by decide +kernel
theorem dX3_blameOf_151 : decode cX3_blameOf 151 = .ok (.iconst 1, 1) := by decide +kernel
theorem dX3_blameOf_152 : decode cX3_blameOf 152 = .ok (.goto 4, 3) := by decide +kernel
theorem dX3_blameOf_155 : decode cX3_blameOf 155 = .ok (.iconst 0, 1) := by decide +kernel
theorem dX3_blameOf_156 : decode cX3_blameOf 156 = .ok (.istore 8, 2) := by decide +kernel
theorem dX3_blameOf_158 : decode cX3_blameOf 158 = .ok (.iload 5, 2) := by decide +kernel
theorem dX3_blameOf_160 : decode cX3_blameOf 160 = .ok (.iload 8, 2) := by decide +kernel
theorem dX3_blameOf_162 : decode cX3_blameOf 162 = .ok (.ifCond .eq 18, 3) := by decide +kernel
theorem dX3_blameOf_165 : decode cX3_blameOf 165 = .ok (.iload_n 3, 1) := by decide +kernel
theorem dX3_blameOf_166 : decode cX3_blameOf 166 = .ok (.aload_n 0, 1) := by decide +kernel
theorem dX3_blameOf_167 : decode cX3_blameOf 167 = .ok (.getfield 38, 3) := by decide +kernel
theorem dX3_blameOf_170 : decode cX3_blameOf 170 = .ok (.iload 7, 2) := by decide +kernel
theorem dX3_blameOf_172 : decode cX3_blameOf 172 = .ok (.iaload, 1) := by decide +kernel
theorem dX3_blameOf_173 : decode cX3_blameOf 173 = .ok (.imul, 1) := by decide +kernel
theorem dX3_blameOf_174 : decode cX3_blameOf 174 = .ok (.iload 4, 2) := by decide +kernel
theorem dX3_blameOf_176 : decode cX3_blameOf 176 = .ok (.idiv, 1) := by decide +kernel
theorem dX3_blameOf_177 : decode cX3_blameOf 177 = .ok (.goto 4, 3) := by decide +kernel
theorem dX3_blameOf_180 : decode cX3_blameOf 180 = .ok (.iconst 0, 1) := by decide +kernel
theorem dX3_blameOf_181 : decode cX3_blameOf 181 = .ok (.isub, 1) := by decide +kernel
theorem dX3_blameOf_182 : decode cX3_blameOf 182 = .ok (.istore 5, 2) := by decide +kernel
theorem dX3_blameOf_184 : decode cX3_blameOf 184 = .ok (.iload 6, 2) := by decide +kernel
theorem dX3_blameOf_186 : decode cX3_blameOf 186 = .ok (.iload 8, 2) := by decide +kernel
theorem dX3_blameOf_188 : decode cX3_blameOf 188 = .ok (.ifCond .eq 13, 3) := by decide +kernel
theorem dX3_blameOf_191 : decode cX3_blameOf 191 = .ok (.iload 7, 2) := by decide +kernel
theorem dX3_blameOf_193 : decode cX3_blameOf 193 = .ok (.iload_n 1, 1) := by decide +kernel
theorem dX3_blameOf_194 : decode cX3_blameOf 194 = .ok (.if_icmp .ge 7, 3) := by decide +kernel
theorem dX3_blameOf_197 : decode cX3_blameOf 197 = .ok (.iconst 1, 1) := by decide +kernel
theorem dX3_blameOf_198 : decode cX3_blameOf 198 = .ok (.goto 4, 3) := by decide +kernel
theorem dX3_blameOf_201 : decode cX3_blameOf 201 = .ok (.iconst 0, 1) := by decide +kernel
theorem dX3_blameOf_202 : decode cX3_blameOf 202 = .ok (.iadd, 1) := by decide +kernel
theorem dX3_blameOf_203 : decode cX3_blameOf 203 = .ok (.istore 6, 2) := by decide +kernel
theorem dX3_blameOf_205 : decode cX3_blameOf 205 = .ok (.iinc 7 1, 3) := by decide +kernel
theorem dX3_blameOf_208 : decode cX3_blameOf 208 = .ok (.goto (-94), 3) := by decide +kernel
theorem dX3_blameOf_211 : decode cX3_blameOf 211 = .ok (.iload_n 3, 1) := by decide +kernel
theorem dX3_blameOf_212 : decode cX3_blameOf 212 = .ok (.aload_n 0, 1) := by decide +kernel
theorem dX3_blameOf_213 : decode cX3_blameOf 213 = .ok (.getfield 38, 3) := by decide +kernel
theorem dX3_blameOf_216 : decode cX3_blameOf 216 = .ok (.iload_n 1, 1) := by decide +kernel
theorem dX3_blameOf_217 : decode cX3_blameOf 217 = .ok (.iaload, 1) := by decide +kernel
theorem dX3_blameOf_218 : decode cX3_blameOf 218 = .ok (.imul, 1) := by decide +kernel
theorem dX3_blameOf_219 : decode cX3_blameOf 219 = .ok (.iload 4, 2) := by decide +kernel
theorem dX3_blameOf_221 : decode cX3_blameOf 221 = .ok (.idiv, 1) := by decide +kernel
theorem dX3_blameOf_222 : decode cX3_blameOf 222 = .ok (.iload 6, 2) := by decide +kernel
theorem dX3_blameOf_224 : decode cX3_blameOf 224 = .ok (.iload 5, 2) := by decide +kernel
theorem dX3_blameOf_226 : decode cX3_blameOf 226 = .ok (.if_icmp .ge 7, 3) := by decide +kernel
theorem dX3_blameOf_229 : decode cX3_blameOf 229 = .ok (.iconst 1, 1) := by decide +kernel
theorem dX3_blameOf_230 : decode cX3_blameOf 230 = .ok (.goto 4, 3) := by decide +kernel
theorem dX3_blameOf_233 : decode cX3_blameOf 233 = .ok (.iconst 0, 1) := by decide +kernel
theorem dX3_blameOf_234 : decode cX3_blameOf 234 = .ok (.iadd, 1) := by decide +kernel
theorem dX3_blameOf_235 : decode cX3_blameOf 235 = .ok (.ireturn, 1) := by decide +kernel
theorem dX3_isGraded_0 : decode cX3_isGraded 0 = .ok (.aload_n 0, 1) := by decide +kernel
theorem dX3_isGraded_1 : decode cX3_isGraded 1 = .ok (.iload_n 1, 1) := by decide +kernel
theorem dX3_isGraded_2 : decode cX3_isGraded 2 = .ok (.bipush 45, 2) := by decide +kernel
theorem dX3_isGraded_4 : decode cX3_isGraded 4 = .ok (.invokevirtual 116, 3) := by decide +kernel
theorem dX3_isGraded_7 : decode cX3_isGraded 7 = .ok (.ifCond .ne 7, 3) := by decide +kernel
theorem dX3_isGraded_10 : decode cX3_isGraded 10 = .ok (.iconst 1, 1) := by decide +kernel
theorem dX3_isGraded_11 : decode cX3_isGraded 11 = .ok (.goto 4, 3) := by decide +kernel
theorem dX3_isGraded_14 : decode cX3_isGraded 14 = .ok (.iconst 0, 1) := by decide +kernel
theorem dX3_isGraded_15 : decode cX3_isGraded 15 = .ok (.ireturn, 1) := by decide +kernel
theorem dX3_worth_0 : decode cX3_worth 0 = .ok (.aload_n 0, 1) := by decide +kernel
theorem dX3_worth_1 : decode cX3_worth 1 = .ok (.aload_n 0, 1) := by decide +kernel
theorem dX3_worth_2 : decode cX3_worth 2 = .ok (.iload_n 1, 1) := by decide +kernel
theorem dX3_worth_3 : decode cX3_worth 3 = .ok (.invokevirtual 113, 3) := by decide +kernel
theorem dX3_worth_6 : decode cX3_worth 6 = .ok (.ifCond .ne 7, 3) := by decide +kernel
theorem dX3_worth_9 : decode cX3_worth 9 = .ok (.iconst 1, 1) := by decide +kernel
theorem dX3_worth_10 : decode cX3_worth 10 = .ok (.goto 16, 3) := by decide +kernel
theorem dX3_worth_13 : decode cX3_worth 13 = .ok (.aload_n 0, 1) := by decide +kernel
theorem dX3_worth_14 : decode cX3_worth 14 = .ok (.iload_n 1, 1) := by decide +kernel
theorem dX3_worth_15 : decode cX3_worth 15 = .ok (.invokevirtual 126, 3) := by decide +kernel
theorem dX3_worth_18 : decode cX3_worth 18 = .ok (.ifCond .ne 7, 3) := by decide +kernel
theorem dX3_worth_21 : decode cX3_worth 21 = .ok (.iconst 2, 1) := by decide +kernel
theorem dX3_worth_22 : decode cX3_worth 22 = .ok (.goto 4, 3) := by decide +kernel
theorem dX3_worth_25 : decode cX3_worth 25 = .ok (.iconst 0, 1) := by decide +kernel
theorem dX3_worth_26 : decode cX3_worth 26 = .ok (.putfield 48, 3) := by decide +kernel
theorem dX3_worth_29 : decode cX3_worth 29 = .ok (.aload_n 0, 1) := by decide +kernel
theorem dX3_worth_30 : decode cX3_worth 30 = .ok (.getfield 48, 3) := by decide +kernel
theorem dX3_worth_33 : decode cX3_worth 33 = .ok (.ifCond .ne 7, 3) := by decide +kernel
theorem dX3_worth_36 : decode cX3_worth 36 = .ok (.iconst 0, 1) := by decide +kernel
theorem dX3_worth_37 : decode cX3_worth 37 = .ok (.goto 4, 3) := by decide +kernel
theorem dX3_worth_40 : decode cX3_worth 40 = .ok (.iconst (-1), 1) := by decide +kernel
theorem dX3_worth_41 : decode cX3_worth 41 = .ok (.istore_n 2, 1) := by decide +kernel
theorem dX3_worth_42 : decode cX3_worth 42 = .ok (.iconst 0, 1) := by decide +kernel
theorem dX3_worth_43 : decode cX3_worth 43 = .ok (.istore_n 3, 1) := by decide +kernel
theorem dX3_worth_44 : decode cX3_worth 44 = .ok (.iload_n 3, 1) := by decide +kernel
theorem dX3_worth_45 : decode cX3_worth 45 = .ok (.aload_n 0, 1) := by decide +kernel
theorem dX3_worth_46 : decode cX3_worth 46 = .ok (.getfield 94, 3) := by decide +kernel
theorem dX3_worth_49 : decode cX3_worth 49 = .ok (.if_icmp .ge 41, 3) := by decide +kernel
theorem dX3_worth_52 : decode cX3_worth 52 = .ok (.aload_n 0, 1) := by decide +kernel
theorem dX3_worth_53 : decode cX3_worth 53 = .ok (.getfield 48, 3) := by decide +kernel
theorem dX3_worth_56 : decode cX3_worth 56 = .ok (.ifCond .ne 34, 3) := by decide +kernel
theorem dX3_worth_59 : decode cX3_worth 59 = .ok (.iload_n 2, 1) := by decide +kernel
theorem dX3_worth_60 : decode cX3_worth 60 = .ok (.aload_n 0, 1) := by decide +kernel
theorem dX3_worth_61 : decode cX3_worth 61 = .ok (.getfield 45, 3) := by decide +kernel
theorem dX3_worth_64 : decode cX3_worth 64 = .ok (.iload_n 3, 1) := by decide +kernel
theorem dX3_worth_65 : decode cX3_worth 65 = .ok (.iaload, 1) := by decide +kernel
theorem dX3_worth_66 : decode cX3_worth 66 = .ok (.bipush 10, 2) := by decide +kernel
theorem dX3_worth_68 : decode cX3_worth 68 = .ok (.iload_n 1, 1) := by decide +kernel
theorem dX3_worth_69 : decode cX3_worth 69 = .ok (.iadd, 1) := by decide +kernel
theorem dX3_worth_70 : decode cX3_worth 70 = .ok (.if_icmp .ne 11, 3) := by decide +kernel
theorem dX3_worth_73 : decode cX3_worth 73 = .ok (.aload_n 0, 1) := by decide +kernel
theorem dX3_worth_74 : decode cX3_worth 74 = .ok (.iload_n 3, 1) := by decide +kernel
theorem dX3_worth_75 : decode cX3_worth 75 = .ok (.invokevirtual 129, 3) := by decide +kernel
theorem dX3_worth_78 : decode cX3_worth 78 = .ok (.goto 4, 3) := by decide +kernel
theorem dX3_worth_81 : decode cX3_worth 81 = .ok (.iconst 0, 1) := by decide +kernel
theorem dX3_worth_82 : decode cX3_worth 82 = .ok (.iadd, 1) := by decide +kernel
theorem dX3_worth_83 : decode cX3_worth 83 = .ok (.istore_n 2, 1) := by decide +kernel
theorem dX3_worth_84 : decode cX3_worth 84 = .ok (.iinc 3 1, 3) := by decide +kernel
theorem dX3_worth_87 : decode cX3_worth 87 = .ok (.goto (-43), 3) := by decide +kernel
theorem dX3_worth_90 : decode cX3_worth 90 = .ok (.iload_n 2, 1) := by decide +kernel
theorem dX3_worth_91 : decode cX3_worth 91 = .ok (.ireturn, 1) := by decide +kernel
theorem dX3_loss_0 : decode cX3_loss 0 = .ok (.aload_n 0, 1) := by decide +kernel
theorem dX3_loss_1 : decode cX3_loss 1 = .ok (.aload_n 0, 1) := by decide +kernel
theorem dX3_loss_2 : decode cX3_loss 2 = .ok (.iload_n 1, 1) := by decide +kernel
theorem dX3_loss_3 : decode cX3_loss 3 = .ok (.invokevirtual 113, 3) := by decide +kernel
theorem dX3_loss_6 : decode cX3_loss 6 = .ok (.ifCond .ne 7, 3) := by decide +kernel
theorem dX3_loss_9 : decode cX3_loss 9 = .ok (.iconst 1, 1) := by decide +kernel
theorem dX3_loss_10 : decode cX3_loss 10 = .ok (.goto 16, 3) := by decide +kernel
theorem dX3_loss_13 : decode cX3_loss 13 = .ok (.aload_n 0, 1) := by decide +kernel
theorem dX3_loss_14 : decode cX3_loss 14 = .ok (.iload_n 1, 1) := by decide +kernel
theorem dX3_loss_15 : decode cX3_loss 15 = .ok (.invokevirtual 126, 3) := by decide +kernel
theorem dX3_loss_18 : decode cX3_loss 18 = .ok (.ifCond .ne 7, 3) := by decide +kernel
theorem dX3_loss_21 : decode cX3_loss 21 = .ok (.iconst 2, 1) := by decide +kernel
theorem dX3_loss_22 : decode cX3_loss 22 = .ok (.goto 4, 3) := by decide +kernel
theorem dX3_loss_25 : decode cX3_loss 25 = .ok (.iconst 0, 1) := by decide +kernel
theorem dX3_loss_26 : decode cX3_loss 26 = .ok (.putfield 48, 3) := by decide +kernel
theorem dX3_loss_29 : decode cX3_loss 29 = .ok (.aload_n 0, 1) := by decide +kernel
theorem dX3_loss_30 : decode cX3_loss 30 = .ok (.getfield 48, 3) := by decide +kernel
theorem dX3_loss_33 : decode cX3_loss 33 = .ok (.ifCond .ne 11, 3) := by decide +kernel
theorem dX3_loss_36 : decode cX3_loss 36 = .ok (.aload_n 0, 1) := by decide +kernel
theorem dX3_loss_37 : decode cX3_loss 37 = .ok (.iload_n 1, 1) := by decide +kernel
theorem dX3_loss_38 : decode cX3_loss 38 = .ok (.invokevirtual 123, 3) := by decide +kernel
theorem dX3_loss_41 : decode cX3_loss 41 = .ok (.goto 4, 3) := by decide +kernel
theorem dX3_loss_44 : decode cX3_loss 44 = .ok (.iconst (-1), 1) := by decide +kernel
theorem dX3_loss_45 : decode cX3_loss 45 = .ok (.ireturn, 1) := by decide +kernel
theorem dX3_counts_0 : decode cX3_counts 0 = .ok (.aload_n 0, 1) := by decide +kernel
theorem dX3_counts_1 : decode cX3_counts 1 = .ok (.getfield 35, 3) := by decide +kernel
theorem dX3_counts_4 : decode cX3_counts 4 = .ok (.iload_n 1, 1) := by decide +kernel
theorem dX3_counts_5 : decode cX3_counts 5 = .ok (.iaload, 1) := by decide +kernel
theorem dX3_counts_6 : decode cX3_counts 6 = .ok (.iload_n 2, 1) := by decide +kernel
theorem dX3_counts_7 : decode cX3_counts 7 = .ok (.if_icmp .ne 34, 3) := by decide +kernel
theorem dX3_counts_10 : decode cX3_counts 10 = .ok (.aload_n 0, 1) := by decide +kernel
theorem dX3_counts_11 : decode cX3_counts 11 = .ok (.getfield 45, 3) := by decide +kernel
theorem dX3_counts_14 : decode cX3_counts 14 = .ok (.iload_n 1, 1) := by decide +kernel
theorem dX3_counts_15 : decode cX3_counts 15 = .ok (.iaload, 1) := by decide +kernel
theorem dX3_counts_16 : decode cX3_counts 16 = .ok (.bipush 10, 2) := by decide +kernel
theorem dX3_counts_18 : decode cX3_counts 18 = .ok (.if_icmp .lt 23, 3) := by decide +kernel
theorem dX3_counts_21 : decode cX3_counts 21 = .ok (.aload_n 0, 1) := by decide +kernel
theorem dX3_counts_22 : decode cX3_counts 22 = .ok (.aload_n 0, 1) := by decide +kernel
theorem dX3_counts_23 : decode cX3_counts 23 = .ok (.getfield 45, 3) := by decide +kernel
theorem dX3_counts_26 : decode cX3_counts 26 = .ok (.iload_n 1, 1) := by decide +kernel
theorem dX3_counts_27 : decode cX3_counts 27 = .ok (.iaload, 1) := by decide +kernel
theorem dX3_counts_28 : decode cX3_counts 28 = .ok (.bipush 10, 2) := by decide +kernel
theorem dX3_counts_30 : decode cX3_counts 30 = .ok (.isub, 1) := by decide +kernel
theorem dX3_counts_31 : decode cX3_counts 31 = .ok (.invokevirtual 126, 3) := by decide +kernel
theorem dX3_counts_34 : decode cX3_counts 34 = .ok (.ifCond .eq 7, 3) := by decide +kernel
theorem dX3_counts_37 : decode cX3_counts 37 = .ok (.iconst 1, 1) := by decide +kernel
theorem dX3_counts_38 : decode cX3_counts 38 = .ok (.goto 4, 3) := by decide +kernel
theorem dX3_counts_41 : decode cX3_counts 41 = .ok (.iconst 0, 1) := by decide +kernel
theorem dX3_counts_42 : decode cX3_counts 42 = .ok (.ireturn, 1) := by decide +kernel
theorem dX3_pay_0 : decode cX3_pay 0 = .ok (.aload_n 0, 1) := by decide +kernel
theorem dX3_pay_1 : decode cX3_pay 1 = .ok (.aload_n 0, 1) := by decide +kernel
theorem dX3_pay_2 : decode cX3_pay 2 = .ok (.iload_n 1, 1) := by decide +kernel
theorem dX3_pay_3 : decode cX3_pay 3 = .ok (.invokevirtual 63, 3) := by decide +kernel
theorem dX3_pay_6 : decode cX3_pay 6 = .ok (.ifCond .eq 7, 3) := by decide +kernel
theorem dX3_pay_9 : decode cX3_pay 9 = .ok (.iconst 0, 1) := by decide +kernel
theorem dX3_pay_10 : decode cX3_pay 10 = .ok (.goto 4, 3) := by decide +kernel
theorem dX3_pay_13 : decode cX3_pay 13 = .ok (.iconst 1, 1) := by decide +kernel
theorem dX3_pay_14 : decode cX3_pay 14 = .ok (.putfield 48, 3) := by decide +kernel
theorem dX3_pay_17 : decode cX3_pay 17 = .ok (.aload_n 0, 1) := by decide +kernel
theorem dX3_pay_18 : decode cX3_pay 18 = .ok (.getfield 48, 3) := by decide +kernel
theorem dX3_pay_21 : decode cX3_pay 21 = .ok (.ifCond .ne 7, 3) := by decide +kernel
theorem dX3_pay_24 : decode cX3_pay 24 = .ok (.lconst 0, 1) := by decide +kernel
theorem dX3_pay_25 : decode cX3_pay 25 = .ok (.goto 6, 3) := by decide +kernel
theorem dX3_pay_28 : decode cX3_pay 28 = .ok (.ldc2_w 132, 3) := by decide +kernel
theorem dX3_pay_31 : decode cX3_pay 31 = .ok (.lstore_n 2, 1) := by decide +kernel
theorem dX3_pay_32 : decode cX3_pay 32 = .ok (.iconst 0, 1) := by decide +kernel
theorem dX3_pay_33 : decode cX3_pay 33 = .ok (.istore 4, 2) := by decide +kernel
theorem dX3_pay_35 : decode cX3_pay 35 = .ok (.iload 4, 2) := by decide +kernel
theorem dX3_pay_37 : decode cX3_pay 37 = .ok (.aload_n 0, 1) := by decide +kernel
theorem dX3_pay_38 : decode cX3_pay 38 = .ok (.getfield 94, 3) := by decide +kernel
theorem dX3_pay_41 : decode cX3_pay 41 = .ok (.if_icmp .ge 40, 3) := by decide +kernel
theorem dX3_pay_44 : decode cX3_pay 44 = .ok (.aload_n 0, 1) := by decide +kernel
theorem dX3_pay_45 : decode cX3_pay 45 = .ok (.getfield 48, 3) := by decide +kernel
theorem dX3_pay_48 : decode cX3_pay 48 = .ok (.ifCond .ne 33, 3) := by decide +kernel
theorem dX3_pay_51 : decode cX3_pay 51 = .ok (.lload_n 2, 1) := by decide +kernel
theorem dX3_pay_52 : decode cX3_pay 52 = .ok (.aload_n 0, 1) := by decide +kernel
theorem dX3_pay_53 : decode cX3_pay 53 = .ok (.iload 4, 2) := by decide +kernel
theorem dX3_pay_55 : decode cX3_pay 55 = .ok (.iload_n 1, 1) := by decide +kernel
theorem dX3_pay_56 : decode cX3_pay 56 = .ok (.invokevirtual 134, 3) := by decide +kernel
theorem dX3_pay_59 : decode cX3_pay 59 = .ok (.ifCond .eq 13, 3) := by decide +kernel
theorem dX3_pay_62 : decode cX3_pay 62 = .ok (.aload_n 0, 1) := by decide +kernel
theorem dX3_pay_63 : decode cX3_pay 63 = .ok (.iload 4, 2) := by decide +kernel
theorem dX3_pay_65 : decode cX3_pay 65 = .ok (.invokevirtual 129, 3) := by decide +kernel
theorem dX3_pay_68 : decode cX3_pay 68 = .ok (.i2l, 1) := by decide +kernel
theorem dX3_pay_69 : decode cX3_pay 69 = .ok (.goto 4, 3) := by decide +kernel
theorem dX3_pay_72 : decode cX3_pay 72 = .ok (.lconst 0, 1) := by decide +kernel
theorem dX3_pay_73 : decode cX3_pay 73 = .ok (.ladd, 1) := by decide +kernel
theorem dX3_pay_74 : decode cX3_pay 74 = .ok (.lstore_n 2, 1) := by decide +kernel
theorem dX3_pay_75 : decode cX3_pay 75 = .ok (.iinc 4 1, 3) := by decide +kernel
theorem dX3_pay_78 : decode cX3_pay 78 = .ok (.goto (-43), 3) := by decide +kernel
theorem dX3_pay_81 : decode cX3_pay 81 = .ok (.lload_n 2, 1) := by decide +kernel
theorem dX3_pay_82 : decode cX3_pay 82 = .ok (.lreturn, 1) := by decide +kernel
theorem dX3_blame_0 : decode cX3_blame 0 = .ok (.aload_n 0, 1) := by decide +kernel
theorem dX3_blame_1 : decode cX3_blame 1 = .ok (.aload_n 0, 1) := by decide +kernel
theorem dX3_blame_2 : decode cX3_blame 2 = .ok (.iload_n 1, 1) := by decide +kernel
theorem dX3_blame_3 : decode cX3_blame 3 = .ok (.invokevirtual 63, 3) := by decide +kernel
theorem dX3_blame_6 : decode cX3_blame 6 = .ok (.ifCond .eq 7, 3) := by decide +kernel
theorem dX3_blame_9 : decode cX3_blame 9 = .ok (.iconst 0, 1) := by decide +kernel
theorem dX3_blame_10 : decode cX3_blame 10 = .ok (.goto 4, 3) := by decide +kernel
theorem dX3_blame_13 : decode cX3_blame 13 = .ok (.iconst 1, 1) := by decide +kernel
theorem dX3_blame_14 : decode cX3_blame 14 = .ok (.putfield 48, 3) := by decide +kernel
theorem dX3_blame_17 : decode cX3_blame 17 = .ok (.aload_n 0, 1) := by decide +kernel
theorem dX3_blame_18 : decode cX3_blame 18 = .ok (.getfield 48, 3) := by decide +kernel
theorem dX3_blame_21 : decode cX3_blame 21 = .ok (.ifCond .ne 7, 3) := by decide +kernel
theorem dX3_blame_24 : decode cX3_blame 24 = .ok (.lconst 0, 1) := by decide +kernel
theorem dX3_blame_25 : decode cX3_blame 25 = .ok (.goto 6, 3) := by decide +kernel
theorem dX3_blame_28 : decode cX3_blame 28 = .ok (.ldc2_w 132, 3) := by decide +kernel
theorem dX3_blame_31 : decode cX3_blame 31 = .ok (.lstore_n 2, 1) := by decide +kernel
theorem dX3_blame_32 : decode cX3_blame 32 = .ok (.iconst 0, 1) := by decide +kernel
theorem dX3_blame_33 : decode cX3_blame 33 = .ok (.istore 4, 2) := by decide +kernel
theorem dX3_blame_35 : decode cX3_blame 35 = .ok (.iload 4, 2) := by decide +kernel
theorem dX3_blame_37 : decode cX3_blame 37 = .ok (.aload_n 0, 1) := by decide +kernel
theorem dX3_blame_38 : decode cX3_blame 38 = .ok (.getfield 94, 3) := by decide +kernel
theorem dX3_blame_41 : decode cX3_blame 41 = .ok (.if_icmp .ge 40, 3) := by decide +kernel
theorem dX3_blame_44 : decode cX3_blame 44 = .ok (.aload_n 0, 1) := by decide +kernel
theorem dX3_blame_45 : decode cX3_blame 45 = .ok (.getfield 48, 3) := by decide +kernel
theorem dX3_blame_48 : decode cX3_blame 48 = .ok (.ifCond .ne 33, 3) := by decide +kernel
theorem dX3_blame_51 : decode cX3_blame 51 = .ok (.lload_n 2, 1) := by decide +kernel
theorem dX3_blame_52 : decode cX3_blame 52 = .ok (.aload_n 0, 1) := by decide +kernel
theorem dX3_blame_53 : decode cX3_blame 53 = .ok (.iload 4, 2) := by decide +kernel
theorem dX3_blame_55 : decode cX3_blame 55 = .ok (.iload_n 1, 1) := by decide +kernel
theorem dX3_blame_56 : decode cX3_blame 56 = .ok (.invokevirtual 134, 3) := by decide +kernel
theorem dX3_blame_59 : decode cX3_blame 59 = .ok (.ifCond .eq 13, 3) := by decide +kernel
theorem dX3_blame_62 : decode cX3_blame 62 = .ok (.aload_n 0, 1) := by decide +kernel
theorem dX3_blame_63 : decode cX3_blame 63 = .ok (.iload 4, 2) := by decide +kernel
theorem dX3_blame_65 : decode cX3_blame 65 = .ok (.invokevirtual 138, 3) := by decide +kernel
theorem dX3_blame_68 : decode cX3_blame 68 = .ok (.i2l, 1) := by decide +kernel
theorem dX3_blame_69 : decode cX3_blame 69 = .ok (.goto 4, 3) := by decide +kernel
theorem dX3_blame_72 : decode cX3_blame 72 = .ok (.lconst 0, 1) := by decide +kernel
theorem dX3_blame_73 : decode cX3_blame 73 = .ok (.ladd, 1) := by decide +kernel
theorem dX3_blame_74 : decode cX3_blame 74 = .ok (.lstore_n 2, 1) := by decide +kernel
theorem dX3_blame_75 : decode cX3_blame 75 = .ok (.iinc 4 1, 3) := by decide +kernel
theorem dX3_blame_78 : decode cX3_blame 78 = .ok (.goto (-43), 3) := by decide +kernel
theorem dX3_blame_81 : decode cX3_blame 81 = .ok (.lload_n 2, 1) := by decide +kernel
theorem dX3_blame_82 : decode cX3_blame 82 = .ok (.lreturn, 1) := by decide +kernel
theorem dX3_balanceBySamples_0 : decode cX3_balanceBySamples 0 = .ok (.aload_n 0, 1) := by decide +kernel
theorem dX3_balanceBySamples_1 : decode cX3_balanceBySamples 1 = .ok (.aload_n 0, 1) := by decide +kernel
theorem dX3_balanceBySamples_2 : decode cX3_balanceBySamples 2 = .ok (.iload_n 1, 1) := by decide +kernel
theorem dX3_balanceBySamples_3 : decode cX3_balanceBySamples 3 = .ok (.invokevirtual 63, 3) := by decide +kernel
theorem dX3_balanceBySamples_6 : decode cX3_balanceBySamples 6 = .ok (.ifCond .eq 7, 3) := by decide +kernel
theorem dX3_balanceBySamples_9 : decode cX3_balanceBySamples 9 = .ok (.iconst 0, 1) := by decide +kernel
theorem dX3_balanceBySamples_10 : decode cX3_balanceBySamples 10 = .ok (.goto 4, 3) := by decide +kernel
theorem dX3_balanceBySamples_13 : decode cX3_balanceBySamples 13 = .ok (.iconst 1, 1) := by decide +kernel
theorem dX3_balanceBySamples_14 : decode cX3_balanceBySamples 14 = .ok (.putfield 48, 3) := by decide +kernel
theorem dX3_balanceBySamples_17 : decode cX3_balanceBySamples 17 = .ok (.aload_n 0, 1) := by decide +kernel
theorem dX3_balanceBySamples_18 : decode cX3_balanceBySamples 18 = .ok (.getfield 48, 3) := by decide +kernel
theorem dX3_balanceBySamples_21 : decode cX3_balanceBySamples 21 = .ok (.ifCond .ne 17, 3) := by decide +kernel
theorem dX3_balanceBySamples_24 : decode cX3_balanceBySamples 24 = .ok (.aload_n 0, 1) := by decide +kernel
theorem dX3_balanceBySamples_25 : decode cX3_balanceBySamples 25 = .ok (.iload_n 1, 1) := by decide +kernel
theorem dX3_balanceBySamples_26 : decode cX3_balanceBySamples 26 = .ok (.invokevirtual 141, 3) := by decide +kernel
theorem dX3_balanceBySamples_29 : decode cX3_balanceBySamples 29 = .ok (.aload_n 0, 1) := by decide +kernel
theorem dX3_balanceBySamples_30 : decode cX3_balanceBySamples 30 = .ok (.iload_n 1, 1) := by decide +kernel
theorem dX3_balanceBySamples_31 : decode cX3_balanceBySamples 31 = .ok (.invokevirtual 145, 3) := by decide +kernel
theorem dX3_balanceBySamples_34 : decode cX3_balanceBySamples 34 = .ok (.lsub, 1) := by decide +kernel
theorem dX3_balanceBySamples_35 : decode cX3_balanceBySamples 35 = .ok (.goto 6, 3) := by decide +kernel
theorem dX3_balanceBySamples_38 : decode cX3_balanceBySamples 38 = .ok (.ldc2_w 132, 3) := by decide +kernel
theorem dX3_balanceBySamples_41 : decode cX3_balanceBySamples 41 = .ok (.lreturn, 1) := by decide +kernel
theorem dX3_wayOf_0 : decode cX3_wayOf 0 = .ok (.aload_n 0, 1) := by decide +kernel
theorem dX3_wayOf_1 : decode cX3_wayOf 1 = .ok (.iload_n 1, 1) := by decide +kernel
theorem dX3_wayOf_2 : decode cX3_wayOf 2 = .ok (.invokevirtual 110, 3) := by decide +kernel
theorem dX3_wayOf_5 : decode cX3_wayOf 5 = .ok (.ifCond .ne 8, 3) := by decide +kernel
theorem dX3_wayOf_8 : decode cX3_wayOf 8 = .ok (.bipush 32, 2) := by decide +kernel
theorem dX3_wayOf_10 : decode cX3_wayOf 10 = .ok (.goto 36, 3) := by decide +kernel
theorem dX3_wayOf_13 : decode cX3_wayOf 13 = .ok (.aload_n 0, 1) := by decide +kernel
theorem dX3_wayOf_14 : decode cX3_wayOf 14 = .ok (.getfield 45, 3) := by decide +kernel
theorem dX3_wayOf_17 : decode cX3_wayOf 17 = .ok (.iload_n 1, 1) := by decide +kernel
theorem dX3_wayOf_18 : decode cX3_wayOf 18 = .ok (.iaload, 1) := by decide +kernel
theorem dX3_wayOf_19 : decode cX3_wayOf 19 = .ok (.iconst (-1), 1) := by decide +kernel
theorem dX3_wayOf_20 : decode cX3_wayOf 20 = .ok (.if_icmp .ne 8, 3) := by decide +kernel
theorem dX3_wayOf_23 : decode cX3_wayOf 23 = .ok (.bipush 116, 2) := by decide +kernel
theorem dX3_wayOf_25 : decode cX3_wayOf 25 = .ok (.goto 21, 3) := by decide +kernel
theorem dX3_wayOf_28 : decode cX3_wayOf 28 = .ok (.aload_n 0, 1) := by decide +kernel
theorem dX3_wayOf_29 : decode cX3_wayOf 29 = .ok (.getfield 45, 3) := by decide +kernel
theorem dX3_wayOf_32 : decode cX3_wayOf 32 = .ok (.iload_n 1, 1) := by decide +kernel
theorem dX3_wayOf_33 : decode cX3_wayOf 33 = .ok (.iaload, 1) := by decide +kernel
theorem dX3_wayOf_34 : decode cX3_wayOf 34 = .ok (.bipush 10, 2) := by decide +kernel
theorem dX3_wayOf_36 : decode cX3_wayOf 36 = .ok (.if_icmp .ge 8, 3) := by decide +kernel
theorem dX3_wayOf_39 : decode cX3_wayOf 39 = .ok (.bipush 118, 2) := by decide +kernel
theorem dX3_wayOf_41 : decode cX3_wayOf 41 = .ok (.goto 5, 3) := by decide +kernel
theorem dX3_wayOf_44 : decode cX3_wayOf 44 = .ok (.bipush 98, 2) := by decide +kernel
theorem dX3_wayOf_46 : decode cX3_wayOf 46 = .ok (.ireturn, 1) := by decide +kernel
theorem dX3_spoiltShare_0 : decode cX3_spoiltShare 0 = .ok (.iconst 0, 1) := by decide +kernel
theorem dX3_spoiltShare_1 : decode cX3_spoiltShare 1 = .ok (.istore_n 1, 1) := by decide +kernel
theorem dX3_spoiltShare_2 : decode cX3_spoiltShare 2 = .ok (.iconst 0, 1) := by decide +kernel
theorem dX3_spoiltShare_3 : decode cX3_spoiltShare 3 = .ok (.istore_n 2, 1) := by decide +kernel
theorem dX3_spoiltShare_4 : decode cX3_spoiltShare 4 = .ok (.iconst 0, 1) := by decide +kernel
theorem dX3_spoiltShare_5 : decode cX3_spoiltShare 5 = .ok (.istore_n 3, 1) := by decide +kernel
theorem dX3_spoiltShare_6 : decode cX3_spoiltShare 6 = .ok (.iload_n 3, 1) := by decide +kernel
theorem dX3_spoiltShare_7 : decode cX3_spoiltShare 7 = .ok (.aload_n 0, 1) := by decide +kernel
theorem dX3_spoiltShare_8 : decode cX3_spoiltShare 8 = .ok (.getfield 94, 3) := by decide +kernel
theorem dX3_spoiltShare_11 : decode cX3_spoiltShare 11 = .ok (.if_icmp .ge 60, 3) := by decide +kernel
theorem dX3_spoiltShare_14 : decode cX3_spoiltShare 14 = .ok (.iload_n 1, 1) := by decide +kernel
theorem dX3_spoiltShare_15 : decode cX3_spoiltShare 15 = .ok (.aload_n 0, 1) := by decide +kernel
theorem dX3_spoiltShare_16 : decode cX3_spoiltShare 16 = .ok (.getfield 45, 3) := by decide +kernel
theorem dX3_spoiltShare_19 : decode cX3_spoiltShare 19 = .ok (.iload_n 3, 1) := by decide +kernel
theorem dX3_spoiltShare_20 : decode cX3_spoiltShare 20 = .ok (.iaload, 1) := by decide +kernel
theorem dX3_spoiltShare_21 : decode cX3_spoiltShare 21 = .ok (.bipush 10, 2) := by decide +kernel
theorem dX3_spoiltShare_23 : decode cX3_spoiltShare 23 = .ok (.if_icmp .lt 30, 3) := by decide +kernel
theorem dX3_spoiltShare_26 : decode cX3_spoiltShare 26 = .ok (.aload_n 0, 1) := by decide +kernel
theorem dX3_spoiltShare_27 : decode cX3_spoiltShare 27 = .ok (.aload_n 0, 1) := by decide +kernel
theorem dX3_spoiltShare_28 : decode cX3_spoiltShare 28 = .ok (.getfield 45, 3) := by decide +kernel
theorem dX3_spoiltShare_31 : decode cX3_spoiltShare 31 = .ok (.iload_n 3, 1) := by decide +kernel
theorem dX3_spoiltShare_32 : decode cX3_spoiltShare 32 = .ok (.iaload, 1) := by decide +kernel
theorem dX3_spoiltShare_33 : decode cX3_spoiltShare 33 = .ok (.bipush 10, 2) := by decide +kernel
theorem dX3_spoiltShare_35 : decode cX3_spoiltShare 35 = .ok (.isub, 1) := by decide +kernel
theorem dX3_spoiltShare_36 : decode cX3_spoiltShare 36 = .ok (.bipush 120, 2) := by decide +kernel
theorem dX3_spoiltShare_38 : decode cX3_spoiltShare 38 = .ok (.invokevirtual 116, 3) := by decide +kernel
theorem dX3_spoiltShare_41 : decode cX3_spoiltShare 41 = .ok (.ifCond .eq 12, 3) := by decide +kernel
theorem dX3_spoiltShare_44 : decode cX3_spoiltShare 44 = .ok (.aload_n 0, 1) := by decide +kernel
theorem dX3_spoiltShare_45 : decode cX3_spoiltShare 45 = .ok (.getfield 38, 3) := by decide +kernel
theorem dX3_spoiltShare_48 : decode cX3_spoiltShare 48 = .ok (.iload_n 3, 1) := by decide +kernel
theorem dX3_spoiltShare_49 : decode cX3_spoiltShare 49 = .ok (.iaload, 1) := by decide +kernel
theorem dX3_spoiltShare_50 : decode cX3_spoiltShare 50 = .ok (.goto 4, 3) := by decide +kernel
theorem dX3_spoiltShare_53 : decode cX3_spoiltShare 53 = .ok (.iconst 0, 1) := by decide +kernel
theorem dX3_spoiltShare_54 : decode cX3_spoiltShare 54 = .ok (.iadd, 1) := by decide +kernel
theorem dX3_spoiltShare_55 : decode cX3_spoiltShare 55 = .ok (.istore_n 1, 1) := by decide +kernel
theorem dX3_spoiltShare_56 : decode cX3_spoiltShare 56 = .ok (.iload_n 2, 1) := by decide +kernel
theorem dX3_spoiltShare_57 : decode cX3_spoiltShare 57 = .ok (.aload_n 0, 1) := by decide +kernel
theorem dX3_spoiltShare_58 : decode cX3_spoiltShare 58 = .ok (.getfield 38, 3) := by decide +kernel
theorem dX3_spoiltShare_61 : decode cX3_spoiltShare 61 = .ok (.iload_n 3, 1) := by decide +kernel
theorem dX3_spoiltShare_62 : decode cX3_spoiltShare 62 = .ok (.iaload, 1) := by decide +kernel
theorem dX3_spoiltShare_63 : decode cX3_spoiltShare 63 = .ok (.iadd, 1) := by decide +kernel
theorem dX3_spoiltShare_64 : decode cX3_spoiltShare 64 = .ok (.istore_n 2, 1) := by decide +kernel
theorem dX3_spoiltShare_65 : decode cX3_spoiltShare 65 = .ok (.iinc 3 1, 3) := by decide +kernel
theorem dX3_spoiltShare_68 : decode cX3_spoiltShare 68 = .ok (.goto (-62), 3) := by decide +kernel
theorem dX3_spoiltShare_71 : decode cX3_spoiltShare 71 = .ok (.aload_n 0, 1) := by decide +kernel
theorem dX3_spoiltShare_72 : decode cX3_spoiltShare 72 = .ok (.aload_n 0, 1) := by decide +kernel
theorem dX3_spoiltShare_73 : decode cX3_spoiltShare 73 = .ok (.getfield 94, 3) := by decide +kernel
theorem dX3_spoiltShare_76 : decode cX3_spoiltShare 76 = .ok (.ifCond .ne 7, 3) := by decide +kernel
theorem dX3_spoiltShare_79 : decode cX3_spoiltShare 79 = .ok (.iconst 1, 1) := by decide +kernel
theorem dX3_spoiltShare_80 : decode cX3_spoiltShare 80 = .ok (.goto 4, 3) := by decide +kernel
theorem dX3_spoiltShare_83 : decode cX3_spoiltShare 83 = .ok (.iconst 0, 1) := by decide +kernel
theorem dX3_spoiltShare_84 : decode cX3_spoiltShare 84 = .ok (.putfield 48, 3) := by decide +kernel
theorem dX3_spoiltShare_87 : decode cX3_spoiltShare 87 = .ok (.aload_n 0, 1) := by decide +kernel
theorem dX3_spoiltShare_88 : decode cX3_spoiltShare 88 = .ok (.getfield 48, 3) := by decide +kernel
theorem dX3_spoiltShare_91 : decode cX3_spoiltShare 91 = .ok (.ifCond .ne 11, 3) := by decide +kernel
theorem dX3_spoiltShare_94 : decode cX3_spoiltShare 94 = .ok (.iload_n 1, 1) := by decide +kernel
theorem dX3_spoiltShare_95 : decode cX3_spoiltShare 95 = .ok (.i2f, 1) := by decide +kernel
theorem dX3_spoiltShare_96 : decode cX3_spoiltShare 96 = .ok (.iload_n 2, 1) := by decide +kernel
theorem dX3_spoiltShare_97 : decode cX3_spoiltShare 97 = .ok (.i2f, 1) := by decide +kernel
theorem dX3_spoiltShare_98 : decode cX3_spoiltShare 98 = .ok (.fdiv, 1) := by decide +kernel
theorem dX3_spoiltShare_99 : decode cX3_spoiltShare 99 = .ok (.goto 4, 3) := by decide +kernel
theorem dX3_spoiltShare_102 : decode cX3_spoiltShare 102 = .ok (.fconst 0, 1) := by decide +kernel
theorem dX3_spoiltShare_103 : decode cX3_spoiltShare 103 = .ok (.freturn, 1) := by decide +kernel
theorem dX3_meanPay_0 : decode cX3_meanPay 0 = .ok (.iconst 0, 1) := by decide +kernel
theorem dX3_meanPay_1 : decode cX3_meanPay 1 = .ok (.istore_n 1, 1) := by decide +kernel
theorem dX3_meanPay_2 : decode cX3_meanPay 2 = .ok (.iconst 0, 1) := by decide +kernel
theorem dX3_meanPay_3 : decode cX3_meanPay 3 = .ok (.istore_n 2, 1) := by decide +kernel
theorem dX3_meanPay_4 : decode cX3_meanPay 4 = .ok (.iconst 0, 1) := by decide +kernel
theorem dX3_meanPay_5 : decode cX3_meanPay 5 = .ok (.istore_n 3, 1) := by decide +kernel
theorem dX3_meanPay_6 : decode cX3_meanPay 6 = .ok (.iload_n 3, 1) := by decide +kernel
theorem dX3_meanPay_7 : decode cX3_meanPay 7 = .ok (.aload_n 0, 1) := by decide +kernel
theorem dX3_meanPay_8 : decode cX3_meanPay 8 = .ok (.getfield 94, 3) := by decide +kernel
theorem dX3_meanPay_11 : decode cX3_meanPay 11 = .ok (.if_icmp .ge 78, 3) := by decide +kernel
theorem dX3_meanPay_14 : decode cX3_meanPay 14 = .ok (.aload_n 0, 1) := by decide +kernel
theorem dX3_meanPay_15 : decode cX3_meanPay 15 = .ok (.getfield 45, 3) := by decide +kernel
theorem dX3_meanPay_18 : decode cX3_meanPay 18 = .ok (.iload_n 3, 1) := by decide +kernel
theorem dX3_meanPay_19 : decode cX3_meanPay 19 = .ok (.iaload, 1) := by decide +kernel
theorem dX3_meanPay_20 : decode cX3_meanPay 20 = .ok (.bipush 10, 2) := by decide +kernel
theorem dX3_meanPay_22 : decode cX3_meanPay 22 = .ok (.if_icmp .lt 23, 3) := by decide +kernel
theorem dX3_meanPay_25 : decode cX3_meanPay 25 = .ok (.aload_n 0, 1) := by decide +kernel
theorem dX3_meanPay_26 : decode cX3_meanPay 26 = .ok (.aload_n 0, 1) := by decide +kernel
theorem dX3_meanPay_27 : decode cX3_meanPay 27 = .ok (.getfield 45, 3) := by decide +kernel
theorem dX3_meanPay_30 : decode cX3_meanPay 30 = .ok (.iload_n 3, 1) := by decide +kernel
theorem dX3_meanPay_31 : decode cX3_meanPay 31 = .ok (.iaload, 1) := by decide +kernel
theorem dX3_meanPay_32 : decode cX3_meanPay 32 = .ok (.bipush 10, 2) := by decide +kernel
theorem dX3_meanPay_34 : decode cX3_meanPay 34 = .ok (.isub, 1) := by decide +kernel
theorem dX3_meanPay_35 : decode cX3_meanPay 35 = .ok (.invokevirtual 126, 3) := by decide +kernel
theorem dX3_meanPay_38 : decode cX3_meanPay 38 = .ok (.ifCond .eq 7, 3) := by decide +kernel
theorem dX3_meanPay_41 : decode cX3_meanPay 41 = .ok (.iconst 1, 1) := by decide +kernel
theorem dX3_meanPay_42 : decode cX3_meanPay 42 = .ok (.goto 4, 3) := by decide +kernel
theorem dX3_meanPay_45 : decode cX3_meanPay 45 = .ok (.iconst 0, 1) := by decide +kernel
theorem dX3_meanPay_46 : decode cX3_meanPay 46 = .ok (.istore 4, 2) := by decide +kernel
theorem dX3_meanPay_48 : decode cX3_meanPay 48 = .ok (.iload_n 1, 1) := by decide +kernel
theorem dX3_meanPay_49 : decode cX3_meanPay 49 = .ok (.iload 4, 2) := by decide +kernel
theorem dX3_meanPay_51 : decode cX3_meanPay 51 = .ok (.ifCond .eq 11, 3) := by decide +kernel
theorem dX3_meanPay_54 : decode cX3_meanPay 54 = .ok (.aload_n 0, 1) := by decide +kernel
theorem dX3_meanPay_55 : decode cX3_meanPay 55 = .ok (.iload_n 3, 1) := by decide +kernel
theorem dX3_meanPay_56 : decode cX3_meanPay 56 = .ok (.invokevirtual 129, 3) := by decide +kernel
theorem dX3_meanPay_59 : decode cX3_meanPay 59 = .ok (.goto 4, 3) := by decide +kernel
theorem dX3_meanPay_62 : decode cX3_meanPay 62 = .ok (.iconst 0, 1) := by decide +kernel
theorem dX3_meanPay_63 : decode cX3_meanPay 63 = .ok (.iadd, 1) := by decide +kernel
theorem dX3_meanPay_64 : decode cX3_meanPay 64 = .ok (.istore_n 1, 1) := by decide +kernel
theorem dX3_meanPay_65 : decode cX3_meanPay 65 = .ok (.iload_n 2, 1) := by decide +kernel
theorem dX3_meanPay_66 : decode cX3_meanPay 66 = .ok (.iload 4, 2) := by decide +kernel
theorem dX3_meanPay_68 : decode cX3_meanPay 68 = .ok (.ifCond .eq 12, 3) := by decide +kernel
theorem dX3_meanPay_71 : decode cX3_meanPay 71 = .ok (.aload_n 0, 1) := by decide +kernel
theorem dX3_meanPay_72 : decode cX3_meanPay 72 = .ok (.getfield 38, 3) := by decide +kernel
theorem dX3_meanPay_75 : decode cX3_meanPay 75 = .ok (.iload_n 3, 1) := by decide +kernel
theorem dX3_meanPay_76 : decode cX3_meanPay 76 = .ok (.iaload, 1) := by decide +kernel
theorem dX3_meanPay_77 : decode cX3_meanPay 77 = .ok (.goto 4, 3) := by decide +kernel
theorem dX3_meanPay_80 : decode cX3_meanPay 80 = .ok (.iconst 0, 1) := by decide +kernel
theorem dX3_meanPay_81 : decode cX3_meanPay 81 = .ok (.iadd, 1) := by decide +kernel
theorem dX3_meanPay_82 : decode cX3_meanPay 82 = .ok (.istore_n 2, 1) := by decide +kernel
theorem dX3_meanPay_83 : decode cX3_meanPay 83 = .ok (.iinc 3 1, 3) := by decide +kernel
theorem dX3_meanPay_86 : decode cX3_meanPay 86 = .ok (.goto (-80), 3) := by decide +kernel
theorem dX3_meanPay_89 : decode cX3_meanPay 89 = .ok (.aload_n 0, 1) := by decide +kernel
theorem dX3_meanPay_90 : decode cX3_meanPay 90 = .ok (.iload_n 2, 1) := by decide +kernel
theorem dX3_meanPay_91 : decode cX3_meanPay 91 = .ok (.ifCond .ne 7, 3) := by decide +kernel
theorem dX3_meanPay_94 : decode cX3_meanPay 94 = .ok (.iconst 1, 1) := by decide +kernel
theorem dX3_meanPay_95 : decode cX3_meanPay 95 = .ok (.goto 4, 3) := by decide +kernel
theorem dX3_meanPay_98 : decode cX3_meanPay 98 = .ok (.iconst 0, 1) := by decide +kernel
theorem dX3_meanPay_99 : decode cX3_meanPay 99 = .ok (.putfield 48, 3) := by decide +kernel
theorem dX3_meanPay_102 : decode cX3_meanPay 102 = .ok (.aload_n 0, 1) := by decide +kernel
theorem dX3_meanPay_103 : decode cX3_meanPay 103 = .ok (.getfield 48, 3) := by decide +kernel
theorem dX3_meanPay_106 : decode cX3_meanPay 106 = .ok (.ifCond .ne 11, 3) := by decide +kernel
theorem dX3_meanPay_109 : decode cX3_meanPay 109 = .ok (.iload_n 1, 1) := by decide +kernel
theorem dX3_meanPay_110 : decode cX3_meanPay 110 = .ok (.i2d, 1) := by decide +kernel
theorem dX3_meanPay_111 : decode cX3_meanPay 111 = .ok (.iload_n 2, 1) := by decide +kernel
theorem dX3_meanPay_112 : decode cX3_meanPay 112 = .ok (.i2d, 1) := by decide +kernel
theorem dX3_meanPay_113 : decode cX3_meanPay 113 = .ok (.ddiv, 1) := by decide +kernel
theorem dX3_meanPay_114 : decode cX3_meanPay 114 = .ok (.goto 4, 3) := by decide +kernel
theorem dX3_meanPay_117 : decode cX3_meanPay 117 = .ok (.dconst 0, 1) := by decide +kernel
theorem dX3_meanPay_118 : decode cX3_meanPay 118 = .ok (.dreturn, 1) := by decide +kernel
end
section
theorem dL_addFarm_0 : decode cL_addFarm 0 = .ok (.aload_n 2, 1) := by decide +kernel
theorem dL_addFarm_1 : decode cL_addFarm 1 = .ok (.iconst 0, 1) := by decide +kernel
theorem dL_addFarm_2 : decode cL_addFarm 2 = .ok (.aload_n 0, 1) := by decide +kernel
theorem dL_addFarm_3 : decode cL_addFarm 3 = .ok (.iload_n 1, 1) := by decide +kernel
theorem dL_addFarm_4 : decode cL_addFarm 4 = .ok (.invokevirtual 7, 3) := by decide +kernel
theorem dL_addFarm_7 : decode cL_addFarm 7 = .ok (.i2l, 1) := by decide +kernel
theorem dL_addFarm_8 : decode cL_addFarm 8 = .ok (.lastore, 1) := by decide +kernel
theorem dL_addFarm_9 : decode cL_addFarm 9 = .ok (.goto 9, 3) := by decide +kernel
theorem dL_addFarm_12 : decode cL_addFarm 12 = .ok (.astore_n 3, 1) := by decide +kernel
theorem dL_addFarm_13 : decode cL_addFarm 13 = .ok (.iconst 1, 1) := by decide +kernel
theorem dL_addFarm_14 : decode cL_addFarm 14 = .ok (.ireturn, 1) := by decide +kernel
theorem dL_addFarm_15 : decode cL_addFarm 15 = .ok (.astore_n 3, 1) := by decide +kernel
theorem dL_addFarm_16 : decode cL_addFarm 16 = .ok (.iconst 2, 1) := by decide +kernel
theorem dL_addFarm_17 : decode cL_addFarm 17 = .ok (.ireturn, 1) := by decide +kernel
theorem dL_addFarm_18 : decode cL_addFarm 18 = .ok (.iconst 0, 1) := by decide +kernel
theorem dL_addFarm_19 : decode cL_addFarm 19 = .ok (.ireturn, 1) := by decide +kernel
theorem dL_addCow_0 : decode cL_addCow 0 = .ok (.aload_n 3, 1) := by decide +kernel
theorem dL_addCow_1 : decode cL_addCow 1 = .ok (.iconst 0, 1) := by decide +kernel
theorem dL_addCow_2 : decode cL_addCow 2 = .ok (.aload_n 0, 1) := by decide +kernel
theorem dL_addCow_3 : decode cL_addCow 3 = .ok (.iload_n 1, 1) := by decide +kernel
theorem dL_addCow_4 : decode cL_addCow 4 = .ok (.iload_n 2, 1) := by decide +kernel
theorem dL_addCow_5 : decode cL_addCow 5 = .ok (.invokevirtual 17, 3) := by decide +kernel
theorem dL_addCow_8 : decode cL_addCow 8 = .ok (.i2l, 1) := by decide +kernel
theorem dL_addCow_9 : decode cL_addCow 9 = .ok (.lastore, 1) := by decide +kernel
theorem dL_addCow_10 : decode cL_addCow 10 = .ok (.goto 15, 3) := by decide +kernel
theorem dL_addCow_13 : decode cL_addCow 13 = .ok (.astore 4, 2) := by decide +kernel
theorem dL_addCow_15 : decode cL_addCow 15 = .ok (.iconst 1, 1) := by decide +kernel
theorem dL_addCow_16 : decode cL_addCow 16 = .ok (.ireturn, 1) := by decide +kernel
theorem dL_addCow_17 : decode cL_addCow 17 = .ok (.astore 4, 2) := by decide +kernel
theorem dL_addCow_19 : decode cL_addCow 19 = .ok (.iconst 2, 1) := by decide +kernel
theorem dL_addCow_20 : decode cL_addCow 20 = .ok (.ireturn, 1) := by decide +kernel
theorem dL_addCow_21 : decode cL_addCow 21 = .ok (.astore 4, 2) := by decide +kernel
theorem dL_addCow_23 : decode cL_addCow 23 = .ok (.iconst 3, 1) := by decide +kernel
theorem dL_addCow_24 : decode cL_addCow 24 = .ok (.ireturn, 1) := by decide +kernel
theorem dL_addCow_25 : decode cL_addCow 25 = .ok (.iconst 0, 1) := by decide +kernel
theorem dL_addCow_26 : decode cL_addCow 26 = .ok (.ireturn, 1) := by decide +kernel
theorem dL_milkOf_0 : decode cL_milkOf 0 = .ok (.aload_n 3, 1) := by decide +kernel
theorem dL_milkOf_1 : decode cL_milkOf 1 = .ok (.iconst 0, 1) := by decide +kernel
theorem dL_milkOf_2 : decode cL_milkOf 2 = .ok (.aload_n 0, 1) := by decide +kernel
theorem dL_milkOf_3 : decode cL_milkOf 3 = .ok (.iload_n 1, 1) := by decide +kernel
theorem dL_milkOf_4 : decode cL_milkOf 4 = .ok (.iload_n 2, 1) := by decide +kernel
theorem dL_milkOf_5 : decode cL_milkOf 5 = .ok (.invokevirtual 23, 3) := by decide +kernel
theorem dL_milkOf_8 : decode cL_milkOf 8 = .ok (.i2l, 1) := by decide +kernel
theorem dL_milkOf_9 : decode cL_milkOf 9 = .ok (.lastore, 1) := by decide +kernel
theorem dL_milkOf_10 : decode cL_milkOf 10 = .ok (.goto 11, 3) := by decide +kernel
theorem dL_milkOf_13 : decode cL_milkOf 13 = .ok (.astore 4, 2) := by decide +kernel
theorem dL_milkOf_15 : decode cL_milkOf 15 = .ok (.iconst 1, 1) := by decide +kernel
theorem dL_milkOf_16 : decode cL_milkOf 16 = .ok (.ireturn, 1) := by decide +kernel
theorem dL_milkOf_17 : decode cL_milkOf 17 = .ok (.astore 4, 2) := by decide +kernel
theorem dL_milkOf_19 : decode cL_milkOf 19 = .ok (.iconst 2, 1) := by decide +kernel
theorem dL_milkOf_20 : decode cL_milkOf 20 = .ok (.ireturn, 1) := by decide +kernel
theorem dL_milkOf_21 : decode cL_milkOf 21 = .ok (.iconst 0, 1) := by decide +kernel
theorem dL_milkOf_22 : decode cL_milkOf 22 = .ok (.ireturn, 1) := by decide +kernel
theorem dL_inTank_0 : decode cL_inTank 0 = .ok (.aload_n 2, 1) := by decide +kernel
theorem dL_inTank_1 : decode cL_inTank 1 = .ok (.iconst 0, 1) := by decide +kernel
theorem dL_inTank_2 : decode cL_inTank 2 = .ok (.aload_n 0, 1) := by decide +kernel
theorem dL_inTank_3 : decode cL_inTank 3 = .ok (.iload_n 1, 1) := by decide +kernel
theorem dL_inTank_4 : decode cL_inTank 4 = .ok (.invokevirtual 26, 3) := by decide +kernel
theorem dL_inTank_7 : decode cL_inTank 7 = .ok (.i2l, 1) := by decide +kernel
theorem dL_inTank_8 : decode cL_inTank 8 = .ok (.lastore, 1) := by decide +kernel
theorem dL_inTank_9 : decode cL_inTank 9 = .ok (.goto 6, 3) := by decide +kernel
theorem dL_inTank_12 : decode cL_inTank 12 = .ok (.astore_n 3, 1) := by decide +kernel
theorem dL_inTank_13 : decode cL_inTank 13 = .ok (.iconst 1, 1) := by decide +kernel
theorem dL_inTank_14 : decode cL_inTank 14 = .ok (.ireturn, 1) := by decide +kernel
theorem dL_inTank_15 : decode cL_inTank 15 = .ok (.iconst 0, 1) := by decide +kernel
theorem dL_inTank_16 : decode cL_inTank 16 = .ok (.ireturn, 1) := by decide +kernel
theorem dL_pass_0 : decode cL_pass 0 = .ok (.aload_n 2, 1) := by decide +kernel
theorem dL_pass_1 : decode cL_pass 1 = .ok (.iconst 0, 1) := by decide +kernel
theorem dL_pass_2 : decode cL_pass 2 = .ok (.aload_n 0, 1) := by decide +kernel
theorem dL_pass_3 : decode cL_pass 3 = .ok (.iload_n 1, 1) := by decide +kernel
theorem dL_pass_4 : decode cL_pass 4 = .ok (.invokevirtual 29, 3) := by decide +kernel
theorem dL_pass_7 : decode cL_pass 7 = .ok (.i2l, 1) := by decide +kernel
theorem dL_pass_8 : decode cL_pass 8 = .ok (.lastore, 1) := by decide +kernel
theorem dL_pass_9 : decode cL_pass 9 = .ok (.goto 6, 3) := by decide +kernel
theorem dL_pass_12 : decode cL_pass 12 = .ok (.astore_n 3, 1) := by decide +kernel
theorem dL_pass_13 : decode cL_pass 13 = .ok (.iconst 1, 1) := by decide +kernel
theorem dL_pass_14 : decode cL_pass 14 = .ok (.ireturn, 1) := by decide +kernel
theorem dL_pass_15 : decode cL_pass 15 = .ok (.iconst 0, 1) := by decide +kernel
theorem dL_pass_16 : decode cL_pass 16 = .ok (.ireturn, 1) := by decide +kernel
theorem dL_addVat_0 : decode cL_addVat 0 = .ok (.aload_n 2, 1) := by decide +kernel
theorem dL_addVat_1 : decode cL_addVat 1 = .ok (.iconst 0, 1) := by decide +kernel
theorem dL_addVat_2 : decode cL_addVat 2 = .ok (.aload_n 0, 1) := by decide +kernel
theorem dL_addVat_3 : decode cL_addVat 3 = .ok (.iload_n 1, 1) := by decide +kernel
theorem dL_addVat_4 : decode cL_addVat 4 = .ok (.invokevirtual 32, 3) := by decide +kernel
theorem dL_addVat_7 : decode cL_addVat 7 = .ok (.i2l, 1) := by decide +kernel
theorem dL_addVat_8 : decode cL_addVat 8 = .ok (.lastore, 1) := by decide +kernel
theorem dL_addVat_9 : decode cL_addVat 9 = .ok (.goto 9, 3) := by decide +kernel
theorem dL_addVat_12 : decode cL_addVat 12 = .ok (.astore_n 3, 1) := by decide +kernel
theorem dL_addVat_13 : decode cL_addVat 13 = .ok (.iconst 1, 1) := by decide +kernel
theorem dL_addVat_14 : decode cL_addVat 14 = .ok (.ireturn, 1) := by decide +kernel
theorem dL_addVat_15 : decode cL_addVat 15 = .ok (.astore_n 3, 1) := by decide +kernel
theorem dL_addVat_16 : decode cL_addVat 16 = .ok (.iconst 2, 1) := by decide +kernel
theorem dL_addVat_17 : decode cL_addVat 17 = .ok (.ireturn, 1) := by decide +kernel
theorem dL_addVat_18 : decode cL_addVat 18 = .ok (.iconst 0, 1) := by decide +kernel
theorem dL_addVat_19 : decode cL_addVat 19 = .ok (.ireturn, 1) := by decide +kernel
theorem dL_beginRound_0 : decode cL_beginRound 0 = .ok (.aload_n 1, 1) := by decide +kernel
theorem dL_beginRound_1 : decode cL_beginRound 1 = .ok (.iconst 0, 1) := by decide +kernel
theorem dL_beginRound_2 : decode cL_beginRound 2 = .ok (.aload_n 0, 1) := by decide +kernel
theorem dL_beginRound_3 : decode cL_beginRound 3 = .ok (.invokevirtual 35, 3) := by decide +kernel
theorem dL_beginRound_6 : decode cL_beginRound 6 = .ok (.i2l, 1) := by decide +kernel
theorem dL_beginRound_7 : decode cL_beginRound 7 = .ok (.lastore, 1) := by decide +kernel
theorem dL_beginRound_8 : decode cL_beginRound 8 = .ok (.goto 6, 3) := by decide +kernel
theorem dL_beginRound_11 : decode cL_beginRound 11 = .ok (.astore_n 2, 1) := by decide +kernel
theorem dL_beginRound_12 : decode cL_beginRound 12 = .ok (.iconst 1, 1) := by decide +kernel
theorem dL_beginRound_13 : decode cL_beginRound 13 = .ok (.ireturn, 1) := by decide +kernel
theorem dL_beginRound_14 : decode cL_beginRound 14 = .ok (.iconst 0, 1) := by decide +kernel
theorem dL_beginRound_15 : decode cL_beginRound 15 = .ok (.ireturn, 1) := by decide +kernel
theorem dL_visit_0 : decode cL_visit 0 = .ok (.aload_n 2, 1) := by decide +kernel
theorem dL_visit_1 : decode cL_visit 1 = .ok (.iconst 0, 1) := by decide +kernel
theorem dL_visit_2 : decode cL_visit 2 = .ok (.aload_n 0, 1) := by decide +kernel
theorem dL_visit_3 : decode cL_visit 3 = .ok (.iload_n 1, 1) := by decide +kernel
theorem dL_visit_4 : decode cL_visit 4 = .ok (.invokevirtual 39, 3) := by decide +kernel
theorem dL_visit_7 : decode cL_visit 7 = .ok (.i2l, 1) := by decide +kernel
theorem dL_visit_8 : decode cL_visit 8 = .ok (.lastore, 1) := by decide +kernel
theorem dL_visit_9 : decode cL_visit 9 = .ok (.goto 9, 3) := by decide +kernel
theorem dL_visit_12 : decode cL_visit 12 = .ok (.astore_n 3, 1) := by decide +kernel
theorem dL_visit_13 : decode cL_visit 13 = .ok (.iconst 1, 1) := by decide +kernel
theorem dL_visit_14 : decode cL_visit 14 = .ok (.ireturn, 1) := by decide +kernel
theorem dL_visit_15 : decode cL_visit 15 = .ok (.astore_n 3, 1) := by decide +kernel
theorem dL_visit_16 : decode cL_visit 16 = .ok (.iconst 2, 1) := by decide +kernel
theorem dL_visit_17 : decode cL_visit 17 = .ok (.ireturn, 1) := by decide +kernel
theorem dL_visit_18 : decode cL_visit 18 = .ok (.iconst 0, 1) := by decide +kernel
theorem dL_visit_19 : decode cL_visit 19 = .ok (.ireturn, 1) := by decide +kernel
theorem dL_endRound_0 : decode cL_endRound 0 = .ok (.aload_n 2, 1) := by decide +kernel
theorem dL_endRound_1 : decode cL_endRound 1 = .ok (.iconst 0, 1) := by decide +kernel
theorem dL_endRound_2 : decode cL_endRound 2 = .ok (.aload_n 0, 1) := by decide +kernel
theorem dL_endRound_3 : decode cL_endRound 3 = .ok (.iload_n 1, 1) := by decide +kernel
theorem dL_endRound_4 : decode cL_endRound 4 = .ok (.invokevirtual 42, 3) := by decide +kernel
theorem dL_endRound_7 : decode cL_endRound 7 = .ok (.i2l, 1) := by decide +kernel
theorem dL_endRound_8 : decode cL_endRound 8 = .ok (.lastore, 1) := by decide +kernel
theorem dL_endRound_9 : decode cL_endRound 9 = .ok (.goto 12, 3) := by decide +kernel
theorem dL_endRound_12 : decode cL_endRound 12 = .ok (.astore_n 3, 1) := by decide +kernel
theorem dL_endRound_13 : decode cL_endRound 13 = .ok (.iconst 1, 1) := by decide +kernel
theorem dL_endRound_14 : decode cL_endRound 14 = .ok (.ireturn, 1) := by decide +kernel
theorem dL_endRound_15 : decode cL_endRound 15 = .ok (.astore_n 3, 1) := by decide +kernel
theorem dL_endRound_16 : decode cL_endRound 16 = .ok (.iconst 2, 1) := by decide +kernel
theorem dL_endRound_17 : decode cL_endRound 17 = .ok (.ireturn, 1) := by decide +kernel
theorem dL_endRound_18 : decode cL_endRound 18 = .ok (.astore_n 3, 1) := by decide +kernel
theorem dL_endRound_19 : decode cL_endRound 19 = .ok (.iconst 3, 1) := by decide +kernel
theorem dL_endRound_20 : decode cL_endRound 20 = .ok (.ireturn, 1) := by decide +kernel
theorem dL_endRound_21 : decode cL_endRound 21 = .ok (.iconst 0, 1) := by decide +kernel
theorem dL_endRound_22 : decode cL_endRound 22 = .ok (.ireturn, 1) := by decide +kernel
theorem dL_inVat_0 : decode cL_inVat 0 = .ok (.aload_n 2, 1) := by decide +kernel
theorem dL_inVat_1 : decode cL_inVat 1 = .ok (.iconst 0, 1) := by decide +kernel
theorem dL_inVat_2 : decode cL_inVat 2 = .ok (.aload_n 0, 1) := by decide +kernel
theorem dL_inVat_3 : decode cL_inVat 3 = .ok (.iload_n 1, 1) := by decide +kernel
theorem dL_inVat_4 : decode cL_inVat 4 = .ok (.invokevirtual 47, 3) := by decide +kernel
theorem dL_inVat_7 : decode cL_inVat 7 = .ok (.i2l, 1) := by decide +kernel
theorem dL_inVat_8 : decode cL_inVat 8 = .ok (.lastore, 1) := by decide +kernel
theorem dL_inVat_9 : decode cL_inVat 9 = .ok (.goto 6, 3) := by decide +kernel
theorem dL_inVat_12 : decode cL_inVat 12 = .ok (.astore_n 3, 1) := by decide +kernel
theorem dL_inVat_13 : decode cL_inVat 13 = .ok (.iconst 1, 1) := by decide +kernel
theorem dL_inVat_14 : decode cL_inVat 14 = .ok (.ireturn, 1) := by decide +kernel
theorem dL_inVat_15 : decode cL_inVat 15 = .ok (.iconst 0, 1) := by decide +kernel
theorem dL_inVat_16 : decode cL_inVat 16 = .ok (.ireturn, 1) := by decide +kernel
theorem dL_bestVat_0 : decode cL_bestVat 0 = .ok (.aload_n 1, 1) := by decide +kernel
theorem dL_bestVat_1 : decode cL_bestVat 1 = .ok (.iconst 0, 1) := by decide +kernel
theorem dL_bestVat_2 : decode cL_bestVat 2 = .ok (.aload_n 0, 1) := by decide +kernel
theorem dL_bestVat_3 : decode cL_bestVat 3 = .ok (.invokevirtual 50, 3) := by decide +kernel
theorem dL_bestVat_6 : decode cL_bestVat 6 = .ok (.i2l, 1) := by decide +kernel
theorem dL_bestVat_7 : decode cL_bestVat 7 = .ok (.lastore, 1) := by decide +kernel
theorem dL_bestVat_8 : decode cL_bestVat 8 = .ok (.goto 6, 3) := by decide +kernel
theorem dL_bestVat_11 : decode cL_bestVat 11 = .ok (.astore_n 2, 1) := by decide +kernel
theorem dL_bestVat_12 : decode cL_bestVat 12 = .ok (.iconst 1, 1) := by decide +kernel
theorem dL_bestVat_13 : decode cL_bestVat 13 = .ok (.ireturn, 1) := by decide +kernel
theorem dL_bestVat_14 : decode cL_bestVat 14 = .ok (.iconst 0, 1) := by decide +kernel
theorem dL_bestVat_15 : decode cL_bestVat 15 = .ok (.ireturn, 1) := by decide +kernel
theorem dL_close_0 : decode cL_close 0 = .ok (.aload_n 2, 1) := by decide +kernel
theorem dL_close_1 : decode cL_close 1 = .ok (.iconst 0, 1) := by decide +kernel
theorem dL_close_2 : decode cL_close 2 = .ok (.aload_n 0, 1) := by decide +kernel
theorem dL_close_3 : decode cL_close 3 = .ok (.iload_n 1, 1) := by decide +kernel
theorem dL_close_4 : decode cL_close 4 = .ok (.invokevirtual 55, 3) := by decide +kernel
theorem dL_close_7 : decode cL_close 7 = .ok (.i2l, 1) := by decide +kernel
theorem dL_close_8 : decode cL_close 8 = .ok (.lastore, 1) := by decide +kernel
theorem dL_close_9 : decode cL_close 9 = .ok (.goto 12, 3) := by decide +kernel
theorem dL_close_12 : decode cL_close 12 = .ok (.astore_n 3, 1) := by decide +kernel
theorem dL_close_13 : decode cL_close 13 = .ok (.iconst 1, 1) := by decide +kernel
theorem dL_close_14 : decode cL_close 14 = .ok (.ireturn, 1) := by decide +kernel
theorem dL_close_15 : decode cL_close 15 = .ok (.astore_n 3, 1) := by decide +kernel
theorem dL_close_16 : decode cL_close 16 = .ok (.iconst 2, 1) := by decide +kernel
theorem dL_close_17 : decode cL_close 17 = .ok (.ireturn, 1) := by decide +kernel
theorem dL_close_18 : decode cL_close 18 = .ok (.astore_n 3, 1) := by decide +kernel
theorem dL_close_19 : decode cL_close 19 = .ok (.iconst 3, 1) := by decide +kernel
theorem dL_close_20 : decode cL_close 20 = .ok (.ireturn, 1) := by decide +kernel
theorem dL_close_21 : decode cL_close 21 = .ok (.iconst 0, 1) := by decide +kernel
theorem dL_close_22 : decode cL_close 22 = .ok (.ireturn, 1) := by decide +kernel
theorem dL_farmOf_0 : decode cL_farmOf 0 = .ok (.aload_n 2, 1) := by decide +kernel
theorem dL_farmOf_1 : decode cL_farmOf 1 = .ok (.iconst 0, 1) := by decide +kernel
theorem dL_farmOf_2 : decode cL_farmOf 2 = .ok (.aload_n 0, 1) := by decide +kernel
theorem dL_farmOf_3 : decode cL_farmOf 3 = .ok (.iload_n 1, 1) := by decide +kernel
theorem dL_farmOf_4 : decode cL_farmOf 4 = .ok (.invokevirtual 58, 3) := by decide +kernel
theorem dL_farmOf_7 : decode cL_farmOf 7 = .ok (.i2l, 1) := by decide +kernel
theorem dL_farmOf_8 : decode cL_farmOf 8 = .ok (.lastore, 1) := by decide +kernel
theorem dL_farmOf_9 : decode cL_farmOf 9 = .ok (.goto 6, 3) := by decide +kernel
theorem dL_farmOf_12 : decode cL_farmOf 12 = .ok (.astore_n 3, 1) := by decide +kernel
theorem dL_farmOf_13 : decode cL_farmOf 13 = .ok (.iconst 1, 1) := by decide +kernel
theorem dL_farmOf_14 : decode cL_farmOf 14 = .ok (.ireturn, 1) := by decide +kernel
theorem dL_farmOf_15 : decode cL_farmOf 15 = .ok (.iconst 0, 1) := by decide +kernel
theorem dL_farmOf_16 : decode cL_farmOf 16 = .ok (.ireturn, 1) := by decide +kernel
theorem dL_litres_0 : decode cL_litres 0 = .ok (.aload_n 2, 1) := by decide +kernel
theorem dL_litres_1 : decode cL_litres 1 = .ok (.iconst 0, 1) := by decide +kernel
theorem dL_litres_2 : decode cL_litres 2 = .ok (.aload_n 0, 1) := by decide +kernel
theorem dL_litres_3 : decode cL_litres 3 = .ok (.iload_n 1, 1) := by decide +kernel
theorem dL_litres_4 : decode cL_litres 4 = .ok (.invokevirtual 61, 3) := by decide +kernel
theorem dL_litres_7 : decode cL_litres 7 = .ok (.i2l, 1) := by decide +kernel
theorem dL_litres_8 : decode cL_litres 8 = .ok (.lastore, 1) := by decide +kernel
theorem dL_litres_9 : decode cL_litres 9 = .ok (.goto 6, 3) := by decide +kernel
theorem dL_litres_12 : decode cL_litres 12 = .ok (.astore_n 3, 1) := by decide +kernel
theorem dL_litres_13 : decode cL_litres 13 = .ok (.iconst 1, 1) := by decide +kernel
theorem dL_litres_14 : decode cL_litres 14 = .ok (.ireturn, 1) := by decide +kernel
theorem dL_litres_15 : decode cL_litres 15 = .ok (.iconst 0, 1) := by decide +kernel
theorem dL_litres_16 : decode cL_litres 16 = .ok (.ireturn, 1) := by decide +kernel
theorem dL_grade_0 : decode cL_grade 0 = .ok (.aload_n 3, 1) := by decide +kernel
theorem dL_grade_1 : decode cL_grade 1 = .ok (.iconst 0, 1) := by decide +kernel
theorem dL_grade_2 : decode cL_grade 2 = .ok (.aload_n 0, 1) := by decide +kernel
theorem dL_grade_3 : decode cL_grade 3 = .ok (.iload_n 1, 1) := by decide +kernel
theorem dL_grade_4 : decode cL_grade 4 = .ok (.iload_n 2, 1) := by decide +kernel
theorem dL_grade_5 : decode cL_grade 5 = .ok (.invokevirtual 64, 3) := by decide +kernel
theorem dL_grade_8 : decode cL_grade 8 = .ok (.i2l, 1) := by decide +kernel
theorem dL_grade_9 : decode cL_grade 9 = .ok (.lastore, 1) := by decide +kernel
theorem dL_grade_10 : decode cL_grade 10 = .ok (.goto 15, 3) := by decide +kernel
theorem dL_grade_13 : decode cL_grade 13 = .ok (.astore 4, 2) := by decide +kernel
theorem dL_grade_15 : decode cL_grade 15 = .ok (.iconst 1, 1) := by decide +kernel
theorem dL_grade_16 : decode cL_grade 16 = .ok (.ireturn, 1) := by decide +kernel
theorem dL_grade_17 : decode cL_grade 17 = .ok (.astore 4, 2) := by decide +kernel
theorem dL_grade_19 : decode cL_grade 19 = .ok (.iconst 2, 1) := by decide +kernel
theorem dL_grade_20 : decode cL_grade 20 = .ok (.ireturn, 1) := by decide +kernel
theorem dL_grade_21 : decode cL_grade 21 = .ok (.astore 4, 2) := by decide +kernel
theorem dL_grade_23 : decode cL_grade 23 = .ok (.iconst 3, 1) := by decide +kernel
theorem dL_grade_24 : decode cL_grade 24 = .ok (.ireturn, 1) := by decide +kernel
theorem dL_grade_25 : decode cL_grade 25 = .ok (.iconst 0, 1) := by decide +kernel
theorem dL_grade_26 : decode cL_grade 26 = .ok (.ireturn, 1) := by decide +kernel
theorem dL_gradeOf_0 : decode cL_gradeOf 0 = .ok (.aload_n 2, 1) := by decide +kernel
theorem dL_gradeOf_1 : decode cL_gradeOf 1 = .ok (.iconst 0, 1) := by decide +kernel
theorem dL_gradeOf_2 : decode cL_gradeOf 2 = .ok (.aload_n 0, 1) := by decide +kernel
theorem dL_gradeOf_3 : decode cL_gradeOf 3 = .ok (.iload_n 1, 1) := by decide +kernel
theorem dL_gradeOf_4 : decode cL_gradeOf 4 = .ok (.invokevirtual 68, 3) := by decide +kernel
theorem dL_gradeOf_7 : decode cL_gradeOf 7 = .ok (.i2l, 1) := by decide +kernel
theorem dL_gradeOf_8 : decode cL_gradeOf 8 = .ok (.lastore, 1) := by decide +kernel
theorem dL_gradeOf_9 : decode cL_gradeOf 9 = .ok (.goto 6, 3) := by decide +kernel
theorem dL_gradeOf_12 : decode cL_gradeOf 12 = .ok (.astore_n 3, 1) := by decide +kernel
theorem dL_gradeOf_13 : decode cL_gradeOf 13 = .ok (.iconst 1, 1) := by decide +kernel
theorem dL_gradeOf_14 : decode cL_gradeOf 14 = .ok (.ireturn, 1) := by decide +kernel
theorem dL_gradeOf_15 : decode cL_gradeOf 15 = .ok (.iconst 0, 1) := by decide +kernel
theorem dL_gradeOf_16 : decode cL_gradeOf 16 = .ok (.ireturn, 1) := by decide +kernel
theorem dL_stateOf_0 : decode cL_stateOf 0 = .ok (.aload_n 2, 1) := by decide +kernel
theorem dL_stateOf_1 : decode cL_stateOf 1 = .ok (.iconst 0, 1) := by decide +kernel
theorem dL_stateOf_2 : decode cL_stateOf 2 = .ok (.aload_n 0, 1) := by decide +kernel
theorem dL_stateOf_3 : decode cL_stateOf 3 = .ok (.iload_n 1, 1) := by decide +kernel
theorem dL_stateOf_4 : decode cL_stateOf 4 = .ok (.invokevirtual 72, 3) := by decide +kernel
theorem dL_stateOf_7 : decode cL_stateOf 7 = .ok (.i2l, 1) := by decide +kernel
theorem dL_stateOf_8 : decode cL_stateOf 8 = .ok (.lastore, 1) := by decide +kernel
theorem dL_stateOf_9 : decode cL_stateOf 9 = .ok (.goto 6, 3) := by decide +kernel
theorem dL_stateOf_12 : decode cL_stateOf 12 = .ok (.astore_n 3, 1) := by decide +kernel
theorem dL_stateOf_13 : decode cL_stateOf 13 = .ok (.iconst 1, 1) := by decide +kernel
theorem dL_stateOf_14 : decode cL_stateOf 14 = .ok (.ireturn, 1) := by decide +kernel
theorem dL_stateOf_15 : decode cL_stateOf 15 = .ok (.iconst 0, 1) := by decide +kernel
theorem dL_stateOf_16 : decode cL_stateOf 16 = .ok (.ireturn, 1) := by decide +kernel
theorem dL_share_0 : decode cL_share 0 = .ok (.aload_n 3, 1) := by decide +kernel
theorem dL_share_1 : decode cL_share 1 = .ok (.iconst 0, 1) := by decide +kernel
theorem dL_share_2 : decode cL_share 2 = .ok (.aload_n 0, 1) := by decide +kernel
theorem dL_share_3 : decode cL_share 3 = .ok (.iload_n 1, 1) := by decide +kernel
theorem dL_share_4 : decode cL_share 4 = .ok (.iload_n 2, 1) := by decide +kernel
theorem dL_share_5 : decode cL_share 5 = .ok (.invokevirtual 75, 3) := by decide +kernel
theorem dL_share_8 : decode cL_share 8 = .ok (.i2l, 1) := by decide +kernel
theorem dL_share_9 : decode cL_share 9 = .ok (.lastore, 1) := by decide +kernel
theorem dL_share_10 : decode cL_share 10 = .ok (.goto 11, 3) := by decide +kernel
theorem dL_share_13 : decode cL_share 13 = .ok (.astore 4, 2) := by decide +kernel
theorem dL_share_15 : decode cL_share 15 = .ok (.iconst 1, 1) := by decide +kernel
theorem dL_share_16 : decode cL_share 16 = .ok (.ireturn, 1) := by decide +kernel
theorem dL_share_17 : decode cL_share 17 = .ok (.astore 4, 2) := by decide +kernel
theorem dL_share_19 : decode cL_share 19 = .ok (.iconst 2, 1) := by decide +kernel
theorem dL_share_20 : decode cL_share 20 = .ok (.ireturn, 1) := by decide +kernel
theorem dL_share_21 : decode cL_share 21 = .ok (.iconst 0, 1) := by decide +kernel
theorem dL_share_22 : decode cL_share 22 = .ok (.ireturn, 1) := by decide +kernel
theorem dL_worth_0 : decode cL_worth 0 = .ok (.aload_n 2, 1) := by decide +kernel
theorem dL_worth_1 : decode cL_worth 1 = .ok (.iconst 0, 1) := by decide +kernel
theorem dL_worth_2 : decode cL_worth 2 = .ok (.aload_n 0, 1) := by decide +kernel
theorem dL_worth_3 : decode cL_worth 3 = .ok (.iload_n 1, 1) := by decide +kernel
theorem dL_worth_4 : decode cL_worth 4 = .ok (.invokevirtual 78, 3) := by decide +kernel
theorem dL_worth_7 : decode cL_worth 7 = .ok (.i2l, 1) := by decide +kernel
theorem dL_worth_8 : decode cL_worth 8 = .ok (.lastore, 1) := by decide +kernel
theorem dL_worth_9 : decode cL_worth 9 = .ok (.goto 9, 3) := by decide +kernel
theorem dL_worth_12 : decode cL_worth 12 = .ok (.astore_n 3, 1) := by decide +kernel
theorem dL_worth_13 : decode cL_worth 13 = .ok (.iconst 1, 1) := by decide +kernel
theorem dL_worth_14 : decode cL_worth 14 = .ok (.ireturn, 1) := by decide +kernel
theorem dL_worth_15 : decode cL_worth 15 = .ok (.astore_n 3, 1) := by decide +kernel
theorem dL_worth_16 : decode cL_worth 16 = .ok (.iconst 2, 1) := by decide +kernel
theorem dL_worth_17 : decode cL_worth 17 = .ok (.ireturn, 1) := by decide +kernel
theorem dL_worth_18 : decode cL_worth 18 = .ok (.iconst 0, 1) := by decide +kernel
theorem dL_worth_19 : decode cL_worth 19 = .ok (.ireturn, 1) := by decide +kernel
theorem dL_loss_0 : decode cL_loss 0 = .ok (.aload_n 2, 1) := by decide +kernel
theorem dL_loss_1 : decode cL_loss 1 = .ok (.iconst 0, 1) := by decide +kernel
theorem dL_loss_2 : decode cL_loss 2 = .ok (.aload_n 0, 1) := by decide +kernel
theorem dL_loss_3 : decode cL_loss 3 = .ok (.iload_n 1, 1) := by decide +kernel
theorem dL_loss_4 : decode cL_loss 4 = .ok (.invokevirtual 81, 3) := by decide +kernel
theorem dL_loss_7 : decode cL_loss 7 = .ok (.i2l, 1) := by decide +kernel
theorem dL_loss_8 : decode cL_loss 8 = .ok (.lastore, 1) := by decide +kernel
theorem dL_loss_9 : decode cL_loss 9 = .ok (.goto 9, 3) := by decide +kernel
theorem dL_loss_12 : decode cL_loss 12 = .ok (.astore_n 3, 1) := by decide +kernel
theorem dL_loss_13 : decode cL_loss 13 = .ok (.iconst 1, 1) := by decide +kernel
theorem dL_loss_14 : decode cL_loss 14 = .ok (.ireturn, 1) := by decide +kernel
theorem dL_loss_15 : decode cL_loss 15 = .ok (.astore_n 3, 1) := by decide +kernel
theorem dL_loss_16 : decode cL_loss 16 = .ok (.iconst 2, 1) := by decide +kernel
theorem dL_loss_17 : decode cL_loss 17 = .ok (.ireturn, 1) := by decide +kernel
theorem dL_loss_18 : decode cL_loss 18 = .ok (.iconst 0, 1) := by decide +kernel
theorem dL_loss_19 : decode cL_loss 19 = .ok (.ireturn, 1) := by decide +kernel
theorem dL_pay_0 : decode cL_pay 0 = .ok (.aload_n 2, 1) := by decide +kernel
theorem dL_pay_1 : decode cL_pay 1 = .ok (.iconst 0, 1) := by decide +kernel
theorem dL_pay_2 : decode cL_pay 2 = .ok (.aload_n 0, 1) := by decide +kernel
theorem dL_pay_3 : decode cL_pay 3 = .ok (.iload_n 1, 1) := by decide +kernel
theorem dL_pay_4 : decode cL_pay 4 = .ok (.invokevirtual 84, 3) := by decide +kernel
theorem dL_pay_7 : decode cL_pay 7 = .ok (.lastore, 1) := by decide +kernel
theorem dL_pay_8 : decode cL_pay 8 = .ok (.goto 6, 3) := by decide +kernel
theorem dL_pay_11 : decode cL_pay 11 = .ok (.astore_n 3, 1) := by decide +kernel
theorem dL_pay_12 : decode cL_pay 12 = .ok (.iconst 1, 1) := by decide +kernel
theorem dL_pay_13 : decode cL_pay 13 = .ok (.ireturn, 1) := by decide +kernel
theorem dL_pay_14 : decode cL_pay 14 = .ok (.iconst 0, 1) := by decide +kernel
theorem dL_pay_15 : decode cL_pay 15 = .ok (.ireturn, 1) := by decide +kernel
theorem dL_blame_0 : decode cL_blame 0 = .ok (.aload_n 2, 1) := by decide +kernel
theorem dL_blame_1 : decode cL_blame 1 = .ok (.iconst 0, 1) := by decide +kernel
theorem dL_blame_2 : decode cL_blame 2 = .ok (.aload_n 0, 1) := by decide +kernel
theorem dL_blame_3 : decode cL_blame 3 = .ok (.iload_n 1, 1) := by decide +kernel
theorem dL_blame_4 : decode cL_blame 4 = .ok (.invokevirtual 88, 3) := by decide +kernel
theorem dL_blame_7 : decode cL_blame 7 = .ok (.lastore, 1) := by decide +kernel
theorem dL_blame_8 : decode cL_blame 8 = .ok (.goto 6, 3) := by decide +kernel
theorem dL_blame_11 : decode cL_blame 11 = .ok (.astore_n 3, 1) := by decide +kernel
theorem dL_blame_12 : decode cL_blame 12 = .ok (.iconst 1, 1) := by decide +kernel
theorem dL_blame_13 : decode cL_blame 13 = .ok (.ireturn, 1) := by decide +kernel
theorem dL_blame_14 : decode cL_blame 14 = .ok (.iconst 0, 1) := by decide +kernel
theorem dL_blame_15 : decode cL_blame 15 = .ok (.ireturn, 1) := by decide +kernel
theorem dL_balanceBySamples_0 : decode cL_balanceBySamples 0 = .ok (.aload_n 2, 1) := by decide +kernel
theorem dL_balanceBySamples_1 : decode cL_balanceBySamples 1 = .ok (.iconst 0, 1) := by decide +kernel
theorem dL_balanceBySamples_2 : decode cL_balanceBySamples 2 = .ok (.aload_n 0, 1) := by decide +kernel
theorem dL_balanceBySamples_3 : decode cL_balanceBySamples 3 = .ok (.iload_n 1, 1) := by decide +kernel
theorem dL_balanceBySamples_4 : decode cL_balanceBySamples 4 = .ok (.invokevirtual 91, 3) := by decide +kernel
theorem dL_balanceBySamples_7 : decode cL_balanceBySamples 7 = .ok (.lastore, 1) := by decide +kernel
theorem dL_balanceBySamples_8 : decode cL_balanceBySamples 8 = .ok (.goto 6, 3) := by decide +kernel
theorem dL_balanceBySamples_11 : decode cL_balanceBySamples 11 = .ok (.astore_n 3, 1) := by decide +kernel
theorem dL_balanceBySamples_12 : decode cL_balanceBySamples 12 = .ok (.iconst 1, 1) := by decide +kernel
theorem dL_balanceBySamples_13 : decode cL_balanceBySamples 13 = .ok (.ireturn, 1) := by decide +kernel
theorem dL_balanceBySamples_14 : decode cL_balanceBySamples 14 = .ok (.iconst 0, 1) := by decide +kernel
theorem dL_balanceBySamples_15 : decode cL_balanceBySamples 15 = .ok (.ireturn, 1) := by decide +kernel
theorem dL_wayOf_0 : decode cL_wayOf 0 = .ok (.aload_n 2, 1) := by decide +kernel
theorem dL_wayOf_1 : decode cL_wayOf 1 = .ok (.iconst 0, 1) := by decide +kernel
theorem dL_wayOf_2 : decode cL_wayOf 2 = .ok (.aload_n 0, 1) := by decide +kernel
theorem dL_wayOf_3 : decode cL_wayOf 3 = .ok (.iload_n 1, 1) := by decide +kernel
theorem dL_wayOf_4 : decode cL_wayOf 4 = .ok (.invokevirtual 94, 3) := by decide +kernel
theorem dL_wayOf_7 : decode cL_wayOf 7 = .ok (.i2l, 1) := by decide +kernel
theorem dL_wayOf_8 : decode cL_wayOf 8 = .ok (.lastore, 1) := by decide +kernel
theorem dL_wayOf_9 : decode cL_wayOf 9 = .ok (.goto 6, 3) := by decide +kernel
theorem dL_wayOf_12 : decode cL_wayOf 12 = .ok (.astore_n 3, 1) := by decide +kernel
theorem dL_wayOf_13 : decode cL_wayOf 13 = .ok (.iconst 1, 1) := by decide +kernel
theorem dL_wayOf_14 : decode cL_wayOf 14 = .ok (.ireturn, 1) := by decide +kernel
theorem dL_wayOf_15 : decode cL_wayOf 15 = .ok (.iconst 0, 1) := by decide +kernel
theorem dL_wayOf_16 : decode cL_wayOf 16 = .ok (.ireturn, 1) := by decide +kernel
theorem dL_spoiltShare_0 : decode cL_spoiltShare 0 = .ok (.aload_n 1, 1) := by decide +kernel
theorem dL_spoiltShare_1 : decode cL_spoiltShare 1 = .ok (.iconst 0, 1) := by decide +kernel
theorem dL_spoiltShare_2 : decode cL_spoiltShare 2 = .ok (.aload_n 0, 1) := by decide +kernel
theorem dL_spoiltShare_3 : decode cL_spoiltShare 3 = .ok (.invokevirtual 97, 3) := by decide +kernel
theorem dL_spoiltShare_6 : decode cL_spoiltShare 6 = .ok (.f2d, 1) := by decide +kernel
theorem dL_spoiltShare_7 : decode cL_spoiltShare 7 = .ok (.dastore, 1) := by decide +kernel
theorem dL_spoiltShare_8 : decode cL_spoiltShare 8 = .ok (.goto 6, 3) := by decide +kernel
theorem dL_spoiltShare_11 : decode cL_spoiltShare 11 = .ok (.astore_n 2, 1) := by decide +kernel
theorem dL_spoiltShare_12 : decode cL_spoiltShare 12 = .ok (.iconst 1, 1) := by decide +kernel
theorem dL_spoiltShare_13 : decode cL_spoiltShare 13 = .ok (.ireturn, 1) := by decide +kernel
theorem dL_spoiltShare_14 : decode cL_spoiltShare 14 = .ok (.iconst 0, 1) := by decide +kernel
theorem dL_spoiltShare_15 : decode cL_spoiltShare 15 = .ok (.ireturn, 1) := by decide +kernel
theorem dL_meanPay_0 : decode cL_meanPay 0 = .ok (.aload_n 1, 1) := by decide +kernel
theorem dL_meanPay_1 : decode cL_meanPay 1 = .ok (.iconst 0, 1) := by decide +kernel
theorem dL_meanPay_2 : decode cL_meanPay 2 = .ok (.aload_n 0, 1) := by decide +kernel
theorem dL_meanPay_3 : decode cL_meanPay 3 = .ok (.invokevirtual 103, 3) := by decide +kernel
theorem dL_meanPay_6 : decode cL_meanPay 6 = .ok (.dastore, 1) := by decide +kernel
theorem dL_meanPay_7 : decode cL_meanPay 7 = .ok (.goto 6, 3) := by decide +kernel
theorem dL_meanPay_10 : decode cL_meanPay 10 = .ok (.astore_n 2, 1) := by decide +kernel
theorem dL_meanPay_11 : decode cL_meanPay 11 = .ok (.iconst 1, 1) := by decide +kernel
theorem dL_meanPay_12 : decode cL_meanPay 12 = .ok (.ireturn, 1) := by decide +kernel
theorem dL_meanPay_13 : decode cL_meanPay 13 = .ok (.iconst 0, 1) := by decide +kernel
theorem dL_meanPay_14 : decode cL_meanPay 14 = .ok (.ireturn, 1) := by decide +kernel
end
section
theorem dL_law_0 : decode cL_law 0 = .ok (.new 8, 3) := by decide +kernel
theorem dL_law_3 : decode cL_law 3 = .ok (.dup, 1) := by decide +kernel
theorem dL_law_4 : decode cL_law 4 = .ok (.invokespecial 107, 3) := by decide +kernel
theorem dL_law_7 : decode cL_law 7 = .ok (.astore_n 1, 1) := by decide +kernel
theorem dL_law_8 : decode cL_law 8 = .ok (.new 108, 3) := by decide +kernel
theorem dL_law_11 : decode cL_law 11 = .ok (.dup, 1) := by decide +kernel
theorem dL_law_12 : decode cL_law 12 = .ok (.invokespecial 110, 3) := by decide +kernel
theorem dL_law_15 : decode cL_law 15 = .ok (.astore_n 2, 1) := by decide +kernel
theorem dL_law_16 : decode cL_law 16 = .ok (.iconst 1, 1) := by decide +kernel
theorem dL_law_17 : decode cL_law 17 = .ok (.newarray .long, 2) := by decide +kernel
theorem dL_law_19 : decode cL_law 19 = .ok (.astore_n 3, 1) := by decide +kernel
theorem dL_law_20 : decode cL_law 20 = .ok (.iconst 1, 1) := by decide +kernel
theorem dL_law_21 : decode cL_law 21 = .ok (.newarray .double, 2) := by decide +kernel
theorem dL_law_23 : decode cL_law 23 = .ok (.astore 4, 2) := by decide +kernel
theorem dL_law_25 : decode cL_law 25 = .ok (.iconst 0, 1) := by decide +kernel
theorem dL_law_26 : decode cL_law 26 = .ok (.istore 5, 2) := by decide +kernel
theorem dL_law_28 : decode cL_law 28 = .ok (.iload 5, 2) := by decide +kernel
theorem dL_law_30 : decode cL_law 30 = .ok (.aload_n 0, 1) := by decide +kernel
theorem dL_law_31 : decode cL_law 31 = .ok (.arraylength, 1) := by decide +kernel
theorem dL_law_32 : decode cL_law 32 = .ok (.iconst 3, 1) := by decide +kernel
theorem dL_law_33 : decode cL_law 33 = .ok (.isub, 1) := by decide +kernel
theorem dL_law_34 : decode cL_law 34 = .ok (.if_icmp .gt 1702, 3) := by decide +kernel
theorem dL_law_37 : decode cL_law 37 = .ok (.aload_n 0, 1) := by decide +kernel
theorem dL_law_38 : decode cL_law 38 = .ok (.iload 5, 2) := by decide +kernel
theorem dL_law_40 : decode cL_law 40 = .ok (.iaload, 1) := by decide +kernel
theorem dL_law_41 : decode cL_law 41 = .ok (.bipush 31, 2) := by decide +kernel
theorem dL_law_43 : decode cL_law 43 = .ok (.iand, 1) := by decide +kernel
theorem dL_law_44 : decode cL_law 44 = .ok (.tableswitch 1686 0 29 #[136, 192, 260, 328, 384, 440, 453, 509, 553, 609, 665, 678, 734, 778, 834, 847, 903, 959, 1029, 1085, 1098, 1154, 1222, 1278, 1334, 1389, 1444, 1499, 1555, 1621], 136) := by decide +kernel
theorem dL_law_180 : decode cL_law 180 = .ok (.aload_n 1, 1) := by decide +kernel
theorem dL_law_181 : decode cL_law 181 = .ok (.aload_n 0, 1) := by decide +kernel
theorem dL_law_182 : decode cL_law 182 = .ok (.iload 5, 2) := by decide +kernel
theorem dL_law_184 : decode cL_law 184 = .ok (.iconst 1, 1) := by decide +kernel
theorem dL_law_185 : decode cL_law 185 = .ok (.iadd, 1) := by decide +kernel
theorem dL_law_186 : decode cL_law 186 = .ok (.iaload, 1) := by decide +kernel
theorem dL_law_187 : decode cL_law 187 = .ok (.aload_n 3, 1) := by decide +kernel
theorem dL_law_188 : decode cL_law 188 = .ok (.invokestatic 111, 3) := by decide +kernel
theorem dL_law_191 : decode cL_law 191 = .ok (.istore 6, 2) := by decide +kernel
theorem dL_law_193 : decode cL_law 193 = .ok (.aload_n 2, 1) := by decide +kernel
theorem dL_law_194 : decode cL_law 194 = .ok (.aload_n 0, 1) := by decide +kernel
theorem dL_law_195 : decode cL_law 195 = .ok (.iload 5, 2) := by decide +kernel
theorem dL_law_197 : decode cL_law 197 = .ok (.iconst 1, 1) := by decide +kernel
theorem dL_law_198 : decode cL_law 198 = .ok (.iadd, 1) := by decide +kernel
theorem dL_law_199 : decode cL_law 199 = .ok (.iaload, 1) := by decide +kernel
theorem dL_law_200 : decode cL_law 200 = .ok (.invokevirtual 116, 3) := by decide +kernel
theorem dL_law_203 : decode cL_law 203 = .ok (.istore 7, 2) := by decide +kernel
theorem dL_law_205 : decode cL_law 205 = .ok (.aload_n 2, 1) := by decide +kernel
theorem dL_law_206 : decode cL_law 206 = .ok (.invokevirtual 117, 3) := by decide +kernel
theorem dL_law_209 : decode cL_law 209 = .ok (.iload 6, 2) := by decide +kernel
theorem dL_law_211 : decode cL_law 211 = .ok (.if_icmp .eq 5, 3) := by decide +kernel
theorem dL_law_214 : decode cL_law 214 = .ok (.iconst 0, 1) := by decide +kernel
theorem dL_law_215 : decode cL_law 215 = .ok (.ireturn, 1) := by decide +kernel
theorem dL_law_216 : decode cL_law 216 = .ok (.iload 6, 2) := by decide +kernel
theorem dL_law_218 : decode cL_law 218 = .ok (.ifCond .ne 15, 3) := by decide +kernel
theorem dL_law_221 : decode cL_law 221 = .ok (.aload_n 3, 1) := by decide +kernel
theorem dL_law_222 : decode cL_law 222 = .ok (.iconst 0, 1) := by decide +kernel
theorem dL_law_223 : decode cL_law 223 = .ok (.laload, 1) := by decide +kernel
theorem dL_law_224 : decode cL_law 224 = .ok (.iload 7, 2) := by decide +kernel
theorem dL_law_226 : decode cL_law 226 = .ok (.i2l, 1) := by decide +kernel
theorem dL_law_227 : decode cL_law 227 = .ok (.lcmp, 1) := by decide +kernel
theorem dL_law_228 : decode cL_law 228 = .ok (.ifCond .eq 5, 3) := by decide +kernel
theorem dL_law_231 : decode cL_law 231 = .ok (.iconst 0, 1) := by decide +kernel
theorem dL_law_232 : decode cL_law 232 = .ok (.ireturn, 1) := by decide +kernel
theorem dL_law_233 : decode cL_law 233 = .ok (.goto 1497, 3) := by decide +kernel
theorem dL_law_236 : decode cL_law 236 = .ok (.aload_n 1, 1) := by decide +kernel
theorem dL_law_237 : decode cL_law 237 = .ok (.aload_n 0, 1) := by decide +kernel
theorem dL_law_238 : decode cL_law 238 = .ok (.iload 5, 2) := by decide +kernel
theorem dL_law_240 : decode cL_law 240 = .ok (.iconst 1, 1) := by decide +kernel
theorem dL_law_241 : decode cL_law 241 = .ok (.iadd, 1) := by decide +kernel
theorem dL_law_242 : decode cL_law 242 = .ok (.iaload, 1) := by decide +kernel
theorem dL_law_243 : decode cL_law 243 = .ok (.aload_n 0, 1) := by decide +kernel
theorem dL_law_244 : decode cL_law 244 = .ok (.iload 5, 2) := by decide +kernel
theorem dL_law_246 : decode cL_law 246 = .ok (.iconst 2, 1) := by decide +kernel
theorem dL_law_247 : decode cL_law 247 = .ok (.iadd, 1) := by decide +kernel
theorem dL_law_248 : decode cL_law 248 = .ok (.iaload, 1) := by decide +kernel
theorem dL_law_249 : decode cL_law 249 = .ok (.aload_n 3, 1) := by decide +kernel
theorem dL_law_250 : decode cL_law 250 = .ok (.invokestatic 120, 3) := by decide +kernel
theorem dL_law_253 : decode cL_law 253 = .ok (.istore 6, 2) := by decide +kernel
theorem dL_law_255 : decode cL_law 255 = .ok (.aload_n 2, 1) := by decide +kernel
theorem dL_law_256 : decode cL_law 256 = .ok (.aload_n 0, 1) := by decide +kernel
theorem dL_law_257 : decode cL_law 257 = .ok (.iload 5, 2) := by decide +kernel
theorem dL_law_259 : decode cL_law 259 = .ok (.iconst 1, 1) := by decide +kernel
theorem dL_law_260 : decode cL_law 260 = .ok (.iadd, 1) := by decide +kernel
theorem dL_law_261 : decode cL_law 261 = .ok (.iaload, 1) := by decide +kernel
theorem dL_law_262 : decode cL_law 262 = .ok (.aload_n 0, 1) := by decide +kernel
theorem dL_law_263 : decode cL_law 263 = .ok (.iload 5, 2) := by decide +kernel
theorem dL_law_265 : decode cL_law 265 = .ok (.iconst 2, 1) := by decide +kernel
theorem dL_law_266 : decode cL_law 266 = .ok (.iadd, 1) := by decide +kernel
theorem dL_law_267 : decode cL_law 267 = .ok (.iaload, 1) := by decide +kernel
theorem dL_law_268 : decode cL_law 268 = .ok (.invokevirtual 123, 3) := by decide +kernel
theorem dL_law_271 : decode cL_law 271 = .ok (.istore 7, 2) := by decide +kernel
theorem dL_law_273 : decode cL_law 273 = .ok (.aload_n 2, 1) := by decide +kernel
theorem dL_law_274 : decode cL_law 274 = .ok (.invokevirtual 117, 3) := by decide +kernel
theorem dL_law_277 : decode cL_law 277 = .ok (.iload 6, 2) := by decide +kernel
theorem dL_law_279 : decode cL_law 279 = .ok (.if_icmp .eq 5, 3) := by decide +kernel
theorem dL_law_282 : decode cL_law 282 = .ok (.iconst 0, 1) := by decide +kernel
theorem dL_law_283 : decode cL_law 283 = .ok (.ireturn, 1) := by decide +kernel
theorem dL_law_284 : decode cL_law 284 = .ok (.iload 6, 2) := by decide +kernel
theorem dL_law_286 : decode cL_law 286 = .ok (.ifCond .ne 15, 3) := by decide +kernel
theorem dL_law_289 : decode cL_law 289 = .ok (.aload_n 3, 1) := by decide +kernel
theorem dL_law_290 : decode cL_law 290 = .ok (.iconst 0, 1) := by decide +kernel
theorem dL_law_291 : decode cL_law 291 = .ok (.laload, 1) := by decide +kernel
theorem dL_law_292 : decode cL_law 292 = .ok (.iload 7, 2) := by decide +kernel
theorem dL_law_294 : decode cL_law 294 = .ok (.i2l, 1) := by decide +kernel
theorem dL_law_295 : decode cL_law 295 = .ok (.lcmp, 1) := by decide +kernel
theorem dL_law_296 : decode cL_law 296 = .ok (.ifCond .eq 5, 3) := by decide +kernel
theorem dL_law_299 : decode cL_law 299 = .ok (.iconst 0, 1) := by decide +kernel
theorem dL_law_300 : decode cL_law 300 = .ok (.ireturn, 1) := by decide +kernel
theorem dL_law_301 : decode cL_law 301 = .ok (.goto 1429, 3) := by decide +kernel
theorem dL_law_304 : decode cL_law 304 = .ok (.aload_n 1, 1) := by decide +kernel
theorem dL_law_305 : decode cL_law 305 = .ok (.aload_n 0, 1) := by decide +kernel
theorem dL_law_306 : decode cL_law 306 = .ok (.iload 5, 2) := by decide +kernel
theorem dL_law_308 : decode cL_law 308 = .ok (.iconst 1, 1) := by decide +kernel
theorem dL_law_309 : decode cL_law 309 = .ok (.iadd, 1) := by decide +kernel
theorem dL_law_310 : decode cL_law 310 = .ok (.iaload, 1) := by decide +kernel
theorem dL_law_311 : decode cL_law 311 = .ok (.aload_n 0, 1) := by decide +kernel
theorem dL_law_312 : decode cL_law 312 = .ok (.iload 5, 2) := by decide +kernel
theorem dL_law_314 : decode cL_law 314 = .ok (.iconst 2, 1) := by decide +kernel
theorem dL_law_315 : decode cL_law 315 = .ok (.iadd, 1) := by decide +kernel
theorem dL_law_316 : decode cL_law 316 = .ok (.iaload, 1) := by decide +kernel
theorem dL_law_317 : decode cL_law 317 = .ok (.aload_n 3, 1) := by decide +kernel
theorem dL_law_318 : decode cL_law 318 = .ok (.invokestatic 124, 3) := by decide +kernel
theorem dL_law_321 : decode cL_law 321 = .ok (.istore 6, 2) := by decide +kernel
theorem dL_law_323 : decode cL_law 323 = .ok (.aload_n 2, 1) := by decide +kernel
theorem dL_law_324 : decode cL_law 324 = .ok (.aload_n 0, 1) := by decide +kernel
theorem dL_law_325 : decode cL_law 325 = .ok (.iload 5, 2) := by decide +kernel
theorem dL_law_327 : decode cL_law 327 = .ok (.iconst 1, 1) := by decide +kernel
theorem dL_law_328 : decode cL_law 328 = .ok (.iadd, 1) := by decide +kernel
theorem dL_law_329 : decode cL_law 329 = .ok (.iaload, 1) := by decide +kernel
theorem dL_law_330 : decode cL_law 330 = .ok (.aload_n 0, 1) := by decide +kernel
theorem dL_law_331 : decode cL_law 331 = .ok (.iload 5, 2) := by decide +kernel
theorem dL_law_333 : decode cL_law 333 = .ok (.iconst 2, 1) := by decide +kernel
theorem dL_law_334 : decode cL_law 334 = .ok (.iadd, 1) := by decide +kernel
theorem dL_law_335 : decode cL_law 335 = .ok (.iaload, 1) := by decide +kernel
theorem dL_law_336 : decode cL_law 336 = .ok (.invokevirtual 126, 3) := by decide +kernel
theorem dL_law_339 : decode cL_law 339 = .ok (.istore 7, 2) := by decide +kernel
theorem dL_law_341 : decode cL_law 341 = .ok (.aload_n 2, 1) := by decide +kernel
theorem dL_law_342 : decode cL_law 342 = .ok (.invokevirtual 117, 3) := by decide +kernel
theorem dL_law_345 : decode cL_law 345 = .ok (.iload 6, 2) := by decide +kernel
theorem dL_law_347 : decode cL_law 347 = .ok (.if_icmp .eq 5, 3) := by decide +kernel
theorem dL_law_350 : decode cL_law 350 = .ok (.iconst 0, 1) := by decide +kernel
theorem dL_law_351 : decode cL_law 351 = .ok (.ireturn, 1) := by decide +kernel
theorem dL_law_352 : decode cL_law 352 = .ok (.iload 6, 2) := by decide +kernel
theorem dL_law_354 : decode cL_law 354 = .ok (.ifCond .ne 15, 3) := by decide +kernel
theorem dL_law_357 : decode cL_law 357 = .ok (.aload_n 3, 1) := by decide +kernel
theorem dL_law_358 : decode cL_law 358 = .ok (.iconst 0, 1) := by decide +kernel
theorem dL_law_359 : decode cL_law 359 = .ok (.laload, 1) := by decide +kernel
theorem dL_law_360 : decode cL_law 360 = .ok (.iload 7, 2) := by decide +kernel
theorem dL_law_362 : decode cL_law 362 = .ok (.i2l, 1) := by decide +kernel
theorem dL_law_363 : decode cL_law 363 = .ok (.lcmp, 1) := by decide +kernel
theorem dL_law_364 : decode cL_law 364 = .ok (.ifCond .eq 5, 3) := by decide +kernel
theorem dL_law_367 : decode cL_law 367 = .ok (.iconst 0, 1) := by decide +kernel
theorem dL_law_368 : decode cL_law 368 = .ok (.ireturn, 1) := by decide +kernel
theorem dL_law_369 : decode cL_law 369 = .ok (.goto 1361, 3) := by decide +kernel
theorem dL_law_372 : decode cL_law 372 = .ok (.aload_n 1, 1) := by decide +kernel
theorem dL_law_373 : decode cL_law 373 = .ok (.aload_n 0, 1) := by decide +kernel
theorem dL_law_374 : decode cL_law 374 = .ok (.iload 5, 2) := by decide +kernel
theorem dL_law_376 : decode cL_law 376 = .ok (.iconst 1, 1) := by decide +kernel
theorem dL_law_377 : decode cL_law 377 = .ok (.iadd, 1) := by decide +kernel
theorem dL_law_378 : decode cL_law 378 = .ok (.iaload, 1) := by decide +kernel
theorem dL_law_379 : decode cL_law 379 = .ok (.aload_n 3, 1) := by decide +kernel
theorem dL_law_380 : decode cL_law 380 = .ok (.invokestatic 127, 3) := by decide +kernel
theorem dL_law_383 : decode cL_law 383 = .ok (.istore 6, 2) := by decide +kernel
theorem dL_law_385 : decode cL_law 385 = .ok (.aload_n 2, 1) := by decide +kernel
theorem dL_law_386 : decode cL_law 386 = .ok (.aload_n 0, 1) := by decide +kernel
theorem dL_law_387 : decode cL_law 387 = .ok (.iload 5, 2) := by decide +kernel
theorem dL_law_389 : decode cL_law 389 = .ok (.iconst 1, 1) := by decide +kernel
theorem dL_law_390 : decode cL_law 390 = .ok (.iadd, 1) := by decide +kernel
theorem dL_law_391 : decode cL_law 391 = .ok (.iaload, 1) := by decide +kernel
theorem dL_law_392 : decode cL_law 392 = .ok (.invokevirtual 129, 3) := by decide +kernel
theorem dL_law_395 : decode cL_law 395 = .ok (.istore 7, 2) := by decide +kernel
theorem dL_law_397 : decode cL_law 397 = .ok (.aload_n 2, 1) := by decide +kernel
theorem dL_law_398 : decode cL_law 398 = .ok (.invokevirtual 117, 3) := by decide +kernel
theorem dL_law_401 : decode cL_law 401 = .ok (.iload 6, 2) := by decide +kernel
theorem dL_law_403 : decode cL_law 403 = .ok (.if_icmp .eq 5, 3) := by decide +kernel
theorem dL_law_406 : decode cL_law 406 = .ok (.iconst 0, 1) := by decide +kernel
theorem dL_law_407 : decode cL_law 407 = .ok (.ireturn, 1) := by decide +kernel
theorem dL_law_408 : decode cL_law 408 = .ok (.iload 6, 2) := by decide +kernel
theorem dL_law_410 : decode cL_law 410 = .ok (.ifCond .ne 15, 3) := by decide +kernel
theorem dL_law_413 : decode cL_law 413 = .ok (.aload_n 3, 1) := by decide +kernel
theorem dL_law_414 : decode cL_law 414 = .ok (.iconst 0, 1) := by decide +kernel
theorem dL_law_415 : decode cL_law 415 = .ok (.laload, 1) := by decide +kernel
theorem dL_law_416 : decode cL_law 416 = .ok (.iload 7, 2) := by decide +kernel
theorem dL_law_418 : decode cL_law 418 = .ok (.i2l, 1) := by decide +kernel
theorem dL_law_419 : decode cL_law 419 = .ok (.lcmp, 1) := by decide +kernel
theorem dL_law_420 : decode cL_law 420 = .ok (.ifCond .eq 5, 3) := by decide +kernel
theorem dL_law_423 : decode cL_law 423 = .ok (.iconst 0, 1) := by decide +kernel
theorem dL_law_424 : decode cL_law 424 = .ok (.ireturn, 1) := by decide +kernel
theorem dL_law_425 : decode cL_law 425 = .ok (.goto 1305, 3) := by decide +kernel
theorem dL_law_428 : decode cL_law 428 = .ok (.aload_n 1, 1) := by decide +kernel
theorem dL_law_429 : decode cL_law 429 = .ok (.aload_n 0, 1) := by decide +kernel
theorem dL_law_430 : decode cL_law 430 = .ok (.iload 5, 2) := by decide +kernel
theorem dL_law_432 : decode cL_law 432 = .ok (.iconst 1, 1) := by decide +kernel
theorem dL_law_433 : decode cL_law 433 = .ok (.iadd, 1) := by decide +kernel
theorem dL_law_434 : decode cL_law 434 = .ok (.iaload, 1) := by decide +kernel
theorem dL_law_435 : decode cL_law 435 = .ok (.aload_n 3, 1) := by decide +kernel
theorem dL_law_436 : decode cL_law 436 = .ok (.invokestatic 130, 3) := by decide +kernel
theorem dL_law_439 : decode cL_law 439 = .ok (.istore 6, 2) := by decide +kernel
theorem dL_law_441 : decode cL_law 441 = .ok (.aload_n 2, 1) := by decide +kernel
theorem dL_law_442 : decode cL_law 442 = .ok (.aload_n 0, 1) := by decide +kernel
theorem dL_law_443 : decode cL_law 443 = .ok (.iload 5, 2) := by decide +kernel
theorem dL_law_445 : decode cL_law 445 = .ok (.iconst 1, 1) := by decide +kernel
theorem dL_law_446 : decode cL_law 446 = .ok (.iadd, 1) := by decide +kernel
theorem dL_law_447 : decode cL_law 447 = .ok (.iaload, 1) := by decide +kernel
theorem dL_law_448 : decode cL_law 448 = .ok (.invokevirtual 132, 3) := by decide +kernel
theorem dL_law_451 : decode cL_law 451 = .ok (.istore 7, 2) := by decide +kernel
theorem dL_law_453 : decode cL_law 453 = .ok (.aload_n 2, 1) := by decide +kernel
theorem dL_law_454 : decode cL_law 454 = .ok (.invokevirtual 117, 3) := by decide +kernel
theorem dL_law_457 : decode cL_law 457 = .ok (.iload 6, 2) := by decide +kernel
theorem dL_law_459 : decode cL_law 459 = .ok (.if_icmp .eq 5, 3) := by decide +kernel
theorem dL_law_462 : decode cL_law 462 = .ok (.iconst 0, 1) := by decide +kernel
theorem dL_law_463 : decode cL_law 463 = .ok (.ireturn, 1) := by decide +kernel
theorem dL_law_464 : decode cL_law 464 = .ok (.iload 6, 2) := by decide +kernel
theorem dL_law_466 : decode cL_law 466 = .ok (.ifCond .ne 15, 3) := by decide +kernel
theorem dL_law_469 : decode cL_law 469 = .ok (.aload_n 3, 1) := by decide +kernel
theorem dL_law_470 : decode cL_law 470 = .ok (.iconst 0, 1) := by decide +kernel
theorem dL_law_471 : decode cL_law 471 = .ok (.laload, 1) := by decide +kernel
theorem dL_law_472 : decode cL_law 472 = .ok (.iload 7, 2) := by decide +kernel
theorem dL_law_474 : decode cL_law 474 = .ok (.i2l, 1) := by decide +kernel
theorem dL_law_475 : decode cL_law 475 = .ok (.lcmp, 1) := by decide +kernel
theorem dL_law_476 : decode cL_law 476 = .ok (.ifCond .eq 5, 3) := by decide +kernel
theorem dL_law_479 : decode cL_law 479 = .ok (.iconst 0, 1) := by decide +kernel
theorem dL_law_480 : decode cL_law 480 = .ok (.ireturn, 1) := by decide +kernel
theorem dL_law_481 : decode cL_law 481 = .ok (.goto 1249, 3) := by decide +kernel
theorem dL_law_484 : decode cL_law 484 = .ok (.aload_n 1, 1) := by decide +kernel
theorem dL_law_485 : decode cL_law 485 = .ok (.invokevirtual 133, 3) := by decide +kernel
theorem dL_law_488 : decode cL_law 488 = .ok (.aload_n 2, 1) := by decide +kernel
theorem dL_law_489 : decode cL_law 489 = .ok (.invokevirtual 136, 3) := by decide +kernel
theorem dL_law_492 : decode cL_law 492 = .ok (.if_icmp .eq 1238, 3) := by decide +kernel
theorem dL_law_495 : decode cL_law 495 = .ok (.iconst 0, 1) := by decide +kernel
theorem dL_law_496 : decode cL_law 496 = .ok (.ireturn, 1) := by decide +kernel
theorem dL_law_497 : decode cL_law 497 = .ok (.aload_n 1, 1) := by decide +kernel
theorem dL_law_498 : decode cL_law 498 = .ok (.aload_n 0, 1) := by decide +kernel
theorem dL_law_499 : decode cL_law 499 = .ok (.iload 5, 2) := by decide +kernel
theorem dL_law_501 : decode cL_law 501 = .ok (.iconst 1, 1) := by decide +kernel
theorem dL_law_502 : decode cL_law 502 = .ok (.iadd, 1) := by decide +kernel
theorem dL_law_503 : decode cL_law 503 = .ok (.iaload, 1) := by decide +kernel
theorem dL_law_504 : decode cL_law 504 = .ok (.aload_n 3, 1) := by decide +kernel
theorem dL_law_505 : decode cL_law 505 = .ok (.invokestatic 137, 3) := by decide +kernel
theorem dL_law_508 : decode cL_law 508 = .ok (.istore 6, 2) := by decide +kernel
theorem dL_law_510 : decode cL_law 510 = .ok (.aload_n 2, 1) := by decide +kernel
theorem dL_law_511 : decode cL_law 511 = .ok (.aload_n 0, 1) := by decide +kernel
theorem dL_law_512 : decode cL_law 512 = .ok (.iload 5, 2) := by decide +kernel
theorem dL_law_514 : decode cL_law 514 = .ok (.iconst 1, 1) := by decide +kernel
theorem dL_law_515 : decode cL_law 515 = .ok (.iadd, 1) := by decide +kernel
theorem dL_law_516 : decode cL_law 516 = .ok (.iaload, 1) := by decide +kernel
theorem dL_law_517 : decode cL_law 517 = .ok (.invokevirtual 139, 3) := by decide +kernel
theorem dL_law_520 : decode cL_law 520 = .ok (.istore 7, 2) := by decide +kernel
theorem dL_law_522 : decode cL_law 522 = .ok (.aload_n 2, 1) := by decide +kernel
end
section
theorem dL_law_523 : decode cL_law 523 = .ok (.invokevirtual 117, 3) := by decide +kernel
theorem dL_law_526 : decode cL_law 526 = .ok (.iload 6, 2) := by decide +kernel
theorem dL_law_528 : decode cL_law 528 = .ok (.if_icmp .eq 5, 3) := by decide +kernel
theorem dL_law_531 : decode cL_law 531 = .ok (.iconst 0, 1) := by decide +kernel
theorem dL_law_532 : decode cL_law 532 = .ok (.ireturn, 1) := by decide +kernel
theorem dL_law_533 : decode cL_law 533 = .ok (.iload 6, 2) := by decide +kernel
theorem dL_law_535 : decode cL_law 535 = .ok (.ifCond .ne 15, 3) := by decide +kernel
theorem dL_law_538 : decode cL_law 538 = .ok (.aload_n 3, 1) := by decide +kernel
theorem dL_law_539 : decode cL_law 539 = .ok (.iconst 0, 1) := by decide +kernel
theorem dL_law_540 : decode cL_law 540 = .ok (.laload, 1) := by decide +kernel
theorem dL_law_541 : decode cL_law 541 = .ok (.iload 7, 2) := by decide +kernel
theorem dL_law_543 : decode cL_law 543 = .ok (.i2l, 1) := by decide +kernel
theorem dL_law_544 : decode cL_law 544 = .ok (.lcmp, 1) := by decide +kernel
theorem dL_law_545 : decode cL_law 545 = .ok (.ifCond .eq 5, 3) := by decide +kernel
theorem dL_law_548 : decode cL_law 548 = .ok (.iconst 0, 1) := by decide +kernel
theorem dL_law_549 : decode cL_law 549 = .ok (.ireturn, 1) := by decide +kernel
theorem dL_law_550 : decode cL_law 550 = .ok (.goto 1180, 3) := by decide +kernel
theorem dL_law_553 : decode cL_law 553 = .ok (.aload_n 1, 1) := by decide +kernel
theorem dL_law_554 : decode cL_law 554 = .ok (.aload_n 3, 1) := by decide +kernel
theorem dL_law_555 : decode cL_law 555 = .ok (.invokestatic 140, 3) := by decide +kernel
theorem dL_law_558 : decode cL_law 558 = .ok (.istore 6, 2) := by decide +kernel
theorem dL_law_560 : decode cL_law 560 = .ok (.aload_n 2, 1) := by decide +kernel
theorem dL_law_561 : decode cL_law 561 = .ok (.invokevirtual 143, 3) := by decide +kernel
theorem dL_law_564 : decode cL_law 564 = .ok (.istore 7, 2) := by decide +kernel
theorem dL_law_566 : decode cL_law 566 = .ok (.aload_n 2, 1) := by decide +kernel
theorem dL_law_567 : decode cL_law 567 = .ok (.invokevirtual 117, 3) := by decide +kernel
theorem dL_law_570 : decode cL_law 570 = .ok (.iload 6, 2) := by decide +kernel
theorem dL_law_572 : decode cL_law 572 = .ok (.if_icmp .eq 5, 3) := by decide +kernel
theorem dL_law_575 : decode cL_law 575 = .ok (.iconst 0, 1) := by decide +kernel
theorem dL_law_576 : decode cL_law 576 = .ok (.ireturn, 1) := by decide +kernel
theorem dL_law_577 : decode cL_law 577 = .ok (.iload 6, 2) := by decide +kernel
theorem dL_law_579 : decode cL_law 579 = .ok (.ifCond .ne 15, 3) := by decide +kernel
theorem dL_law_582 : decode cL_law 582 = .ok (.aload_n 3, 1) := by decide +kernel
theorem dL_law_583 : decode cL_law 583 = .ok (.iconst 0, 1) := by decide +kernel
theorem dL_law_584 : decode cL_law 584 = .ok (.laload, 1) := by decide +kernel
theorem dL_law_585 : decode cL_law 585 = .ok (.iload 7, 2) := by decide +kernel
theorem dL_law_587 : decode cL_law 587 = .ok (.i2l, 1) := by decide +kernel
theorem dL_law_588 : decode cL_law 588 = .ok (.lcmp, 1) := by decide +kernel
theorem dL_law_589 : decode cL_law 589 = .ok (.ifCond .eq 5, 3) := by decide +kernel
theorem dL_law_592 : decode cL_law 592 = .ok (.iconst 0, 1) := by decide +kernel
theorem dL_law_593 : decode cL_law 593 = .ok (.ireturn, 1) := by decide +kernel
theorem dL_law_594 : decode cL_law 594 = .ok (.goto 1136, 3) := by decide +kernel
theorem dL_law_597 : decode cL_law 597 = .ok (.aload_n 1, 1) := by decide +kernel
theorem dL_law_598 : decode cL_law 598 = .ok (.aload_n 0, 1) := by decide +kernel
theorem dL_law_599 : decode cL_law 599 = .ok (.iload 5, 2) := by decide +kernel
theorem dL_law_601 : decode cL_law 601 = .ok (.iconst 1, 1) := by decide +kernel
theorem dL_law_602 : decode cL_law 602 = .ok (.iadd, 1) := by decide +kernel
theorem dL_law_603 : decode cL_law 603 = .ok (.iaload, 1) := by decide +kernel
theorem dL_law_604 : decode cL_law 604 = .ok (.aload_n 3, 1) := by decide +kernel
theorem dL_law_605 : decode cL_law 605 = .ok (.invokestatic 144, 3) := by decide +kernel
theorem dL_law_608 : decode cL_law 608 = .ok (.istore 6, 2) := by decide +kernel
theorem dL_law_610 : decode cL_law 610 = .ok (.aload_n 2, 1) := by decide +kernel
theorem dL_law_611 : decode cL_law 611 = .ok (.aload_n 0, 1) := by decide +kernel
theorem dL_law_612 : decode cL_law 612 = .ok (.iload 5, 2) := by decide +kernel
theorem dL_law_614 : decode cL_law 614 = .ok (.iconst 1, 1) := by decide +kernel
theorem dL_law_615 : decode cL_law 615 = .ok (.iadd, 1) := by decide +kernel
theorem dL_law_616 : decode cL_law 616 = .ok (.iaload, 1) := by decide +kernel
theorem dL_law_617 : decode cL_law 617 = .ok (.invokevirtual 146, 3) := by decide +kernel
theorem dL_law_620 : decode cL_law 620 = .ok (.istore 7, 2) := by decide +kernel
theorem dL_law_622 : decode cL_law 622 = .ok (.aload_n 2, 1) := by decide +kernel
theorem dL_law_623 : decode cL_law 623 = .ok (.invokevirtual 117, 3) := by decide +kernel
theorem dL_law_626 : decode cL_law 626 = .ok (.iload 6, 2) := by decide +kernel
theorem dL_law_628 : decode cL_law 628 = .ok (.if_icmp .eq 5, 3) := by decide +kernel
theorem dL_law_631 : decode cL_law 631 = .ok (.iconst 0, 1) := by decide +kernel
theorem dL_law_632 : decode cL_law 632 = .ok (.ireturn, 1) := by decide +kernel
theorem dL_law_633 : decode cL_law 633 = .ok (.iload 6, 2) := by decide +kernel
theorem dL_law_635 : decode cL_law 635 = .ok (.ifCond .ne 15, 3) := by decide +kernel
theorem dL_law_638 : decode cL_law 638 = .ok (.aload_n 3, 1) := by decide +kernel
theorem dL_law_639 : decode cL_law 639 = .ok (.iconst 0, 1) := by decide +kernel
theorem dL_law_640 : decode cL_law 640 = .ok (.laload, 1) := by decide +kernel
theorem dL_law_641 : decode cL_law 641 = .ok (.iload 7, 2) := by decide +kernel
theorem dL_law_643 : decode cL_law 643 = .ok (.i2l, 1) := by decide +kernel
theorem dL_law_644 : decode cL_law 644 = .ok (.lcmp, 1) := by decide +kernel
theorem dL_law_645 : decode cL_law 645 = .ok (.ifCond .eq 5, 3) := by decide +kernel
theorem dL_law_648 : decode cL_law 648 = .ok (.iconst 0, 1) := by decide +kernel
theorem dL_law_649 : decode cL_law 649 = .ok (.ireturn, 1) := by decide +kernel
theorem dL_law_650 : decode cL_law 650 = .ok (.goto 1080, 3) := by decide +kernel
theorem dL_law_653 : decode cL_law 653 = .ok (.aload_n 1, 1) := by decide +kernel
theorem dL_law_654 : decode cL_law 654 = .ok (.aload_n 0, 1) := by decide +kernel
theorem dL_law_655 : decode cL_law 655 = .ok (.iload 5, 2) := by decide +kernel
theorem dL_law_657 : decode cL_law 657 = .ok (.iconst 1, 1) := by decide +kernel
theorem dL_law_658 : decode cL_law 658 = .ok (.iadd, 1) := by decide +kernel
theorem dL_law_659 : decode cL_law 659 = .ok (.iaload, 1) := by decide +kernel
theorem dL_law_660 : decode cL_law 660 = .ok (.aload_n 3, 1) := by decide +kernel
theorem dL_law_661 : decode cL_law 661 = .ok (.invokestatic 147, 3) := by decide +kernel
theorem dL_law_664 : decode cL_law 664 = .ok (.istore 6, 2) := by decide +kernel
theorem dL_law_666 : decode cL_law 666 = .ok (.aload_n 2, 1) := by decide +kernel
theorem dL_law_667 : decode cL_law 667 = .ok (.aload_n 0, 1) := by decide +kernel
theorem dL_law_668 : decode cL_law 668 = .ok (.iload 5, 2) := by decide +kernel
theorem dL_law_670 : decode cL_law 670 = .ok (.iconst 1, 1) := by decide +kernel
theorem dL_law_671 : decode cL_law 671 = .ok (.iadd, 1) := by decide +kernel
theorem dL_law_672 : decode cL_law 672 = .ok (.iaload, 1) := by decide +kernel
theorem dL_law_673 : decode cL_law 673 = .ok (.invokevirtual 149, 3) := by decide +kernel
theorem dL_law_676 : decode cL_law 676 = .ok (.istore 7, 2) := by decide +kernel
theorem dL_law_678 : decode cL_law 678 = .ok (.aload_n 2, 1) := by decide +kernel
theorem dL_law_679 : decode cL_law 679 = .ok (.invokevirtual 117, 3) := by decide +kernel
theorem dL_law_682 : decode cL_law 682 = .ok (.iload 6, 2) := by decide +kernel
theorem dL_law_684 : decode cL_law 684 = .ok (.if_icmp .eq 5, 3) := by decide +kernel
theorem dL_law_687 : decode cL_law 687 = .ok (.iconst 0, 1) := by decide +kernel
theorem dL_law_688 : decode cL_law 688 = .ok (.ireturn, 1) := by decide +kernel
theorem dL_law_689 : decode cL_law 689 = .ok (.iload 6, 2) := by decide +kernel
theorem dL_law_691 : decode cL_law 691 = .ok (.ifCond .ne 15, 3) := by decide +kernel
theorem dL_law_694 : decode cL_law 694 = .ok (.aload_n 3, 1) := by decide +kernel
theorem dL_law_695 : decode cL_law 695 = .ok (.iconst 0, 1) := by decide +kernel
theorem dL_law_696 : decode cL_law 696 = .ok (.laload, 1) := by decide +kernel
theorem dL_law_697 : decode cL_law 697 = .ok (.iload 7, 2) := by decide +kernel
theorem dL_law_699 : decode cL_law 699 = .ok (.i2l, 1) := by decide +kernel
theorem dL_law_700 : decode cL_law 700 = .ok (.lcmp, 1) := by decide +kernel
theorem dL_law_701 : decode cL_law 701 = .ok (.ifCond .eq 5, 3) := by decide +kernel
theorem dL_law_704 : decode cL_law 704 = .ok (.iconst 0, 1) := by decide +kernel
theorem dL_law_705 : decode cL_law 705 = .ok (.ireturn, 1) := by decide +kernel
theorem dL_law_706 : decode cL_law 706 = .ok (.goto 1024, 3) := by decide +kernel
theorem dL_law_709 : decode cL_law 709 = .ok (.aload_n 1, 1) := by decide +kernel
theorem dL_law_710 : decode cL_law 710 = .ok (.invokevirtual 150, 3) := by decide +kernel
theorem dL_law_713 : decode cL_law 713 = .ok (.aload_n 2, 1) := by decide +kernel
theorem dL_law_714 : decode cL_law 714 = .ok (.invokevirtual 153, 3) := by decide +kernel
theorem dL_law_717 : decode cL_law 717 = .ok (.if_icmp .eq 1013, 3) := by decide +kernel
theorem dL_law_720 : decode cL_law 720 = .ok (.iconst 0, 1) := by decide +kernel
theorem dL_law_721 : decode cL_law 721 = .ok (.ireturn, 1) := by decide +kernel
theorem dL_law_722 : decode cL_law 722 = .ok (.aload_n 1, 1) := by decide +kernel
theorem dL_law_723 : decode cL_law 723 = .ok (.aload_n 0, 1) := by decide +kernel
theorem dL_law_724 : decode cL_law 724 = .ok (.iload 5, 2) := by decide +kernel
theorem dL_law_726 : decode cL_law 726 = .ok (.iconst 1, 1) := by decide +kernel
theorem dL_law_727 : decode cL_law 727 = .ok (.iadd, 1) := by decide +kernel
theorem dL_law_728 : decode cL_law 728 = .ok (.iaload, 1) := by decide +kernel
theorem dL_law_729 : decode cL_law 729 = .ok (.aload_n 3, 1) := by decide +kernel
theorem dL_law_730 : decode cL_law 730 = .ok (.invokestatic 154, 3) := by decide +kernel
theorem dL_law_733 : decode cL_law 733 = .ok (.istore 6, 2) := by decide +kernel
theorem dL_law_735 : decode cL_law 735 = .ok (.aload_n 2, 1) := by decide +kernel
theorem dL_law_736 : decode cL_law 736 = .ok (.aload_n 0, 1) := by decide +kernel
theorem dL_law_737 : decode cL_law 737 = .ok (.iload 5, 2) := by decide +kernel
theorem dL_law_739 : decode cL_law 739 = .ok (.iconst 1, 1) := by decide +kernel
theorem dL_law_740 : decode cL_law 740 = .ok (.iadd, 1) := by decide +kernel
theorem dL_law_741 : decode cL_law 741 = .ok (.iaload, 1) := by decide +kernel
theorem dL_law_742 : decode cL_law 742 = .ok (.invokevirtual 156, 3) := by decide +kernel
theorem dL_law_745 : decode cL_law 745 = .ok (.istore 7, 2) := by decide +kernel
theorem dL_law_747 : decode cL_law 747 = .ok (.aload_n 2, 1) := by decide +kernel
theorem dL_law_748 : decode cL_law 748 = .ok (.invokevirtual 117, 3) := by decide +kernel
theorem dL_law_751 : decode cL_law 751 = .ok (.iload 6, 2) := by decide +kernel
theorem dL_law_753 : decode cL_law 753 = .ok (.if_icmp .eq 5, 3) := by decide +kernel
theorem dL_law_756 : decode cL_law 756 = .ok (.iconst 0, 1) := by decide +kernel
theorem dL_law_757 : decode cL_law 757 = .ok (.ireturn, 1) := by decide +kernel
theorem dL_law_758 : decode cL_law 758 = .ok (.iload 6, 2) := by decide +kernel
theorem dL_law_760 : decode cL_law 760 = .ok (.ifCond .ne 15, 3) := by decide +kernel
theorem dL_law_763 : decode cL_law 763 = .ok (.aload_n 3, 1) := by decide +kernel
theorem dL_law_764 : decode cL_law 764 = .ok (.iconst 0, 1) := by decide +kernel
theorem dL_law_765 : decode cL_law 765 = .ok (.laload, 1) := by decide +kernel
theorem dL_law_766 : decode cL_law 766 = .ok (.iload 7, 2) := by decide +kernel
theorem dL_law_768 : decode cL_law 768 = .ok (.i2l, 1) := by decide +kernel
theorem dL_law_769 : decode cL_law 769 = .ok (.lcmp, 1) := by decide +kernel
theorem dL_law_770 : decode cL_law 770 = .ok (.ifCond .eq 5, 3) := by decide +kernel
theorem dL_law_773 : decode cL_law 773 = .ok (.iconst 0, 1) := by decide +kernel
theorem dL_law_774 : decode cL_law 774 = .ok (.ireturn, 1) := by decide +kernel
theorem dL_law_775 : decode cL_law 775 = .ok (.goto 955, 3) := by decide +kernel
theorem dL_law_778 : decode cL_law 778 = .ok (.aload_n 1, 1) := by decide +kernel
theorem dL_law_779 : decode cL_law 779 = .ok (.aload_n 3, 1) := by decide +kernel
theorem dL_law_780 : decode cL_law 780 = .ok (.invokestatic 157, 3) := by decide +kernel
theorem dL_law_783 : decode cL_law 783 = .ok (.istore 6, 2) := by decide +kernel
theorem dL_law_785 : decode cL_law 785 = .ok (.aload_n 2, 1) := by decide +kernel
theorem dL_law_786 : decode cL_law 786 = .ok (.invokevirtual 159, 3) := by decide +kernel
theorem dL_law_789 : decode cL_law 789 = .ok (.istore 7, 2) := by decide +kernel
theorem dL_law_791 : decode cL_law 791 = .ok (.aload_n 2, 1) := by decide +kernel
theorem dL_law_792 : decode cL_law 792 = .ok (.invokevirtual 117, 3) := by decide +kernel
theorem dL_law_795 : decode cL_law 795 = .ok (.iload 6, 2) := by decide +kernel
theorem dL_law_797 : decode cL_law 797 = .ok (.if_icmp .eq 5, 3) := by decide +kernel
theorem dL_law_800 : decode cL_law 800 = .ok (.iconst 0, 1) := by decide +kernel
theorem dL_law_801 : decode cL_law 801 = .ok (.ireturn, 1) := by decide +kernel
theorem dL_law_802 : decode cL_law 802 = .ok (.iload 6, 2) := by decide +kernel
theorem dL_law_804 : decode cL_law 804 = .ok (.ifCond .ne 15, 3) := by decide +kernel
theorem dL_law_807 : decode cL_law 807 = .ok (.aload_n 3, 1) := by decide +kernel
theorem dL_law_808 : decode cL_law 808 = .ok (.iconst 0, 1) := by decide +kernel
theorem dL_law_809 : decode cL_law 809 = .ok (.laload, 1) := by decide +kernel
theorem dL_law_810 : decode cL_law 810 = .ok (.iload 7, 2) := by decide +kernel
theorem dL_law_812 : decode cL_law 812 = .ok (.i2l, 1) := by decide +kernel
theorem dL_law_813 : decode cL_law 813 = .ok (.lcmp, 1) := by decide +kernel
theorem dL_law_814 : decode cL_law 814 = .ok (.ifCond .eq 5, 3) := by decide +kernel
theorem dL_law_817 : decode cL_law 817 = .ok (.iconst 0, 1) := by decide +kernel
theorem dL_law_818 : decode cL_law 818 = .ok (.ireturn, 1) := by decide +kernel
theorem dL_law_819 : decode cL_law 819 = .ok (.goto 911, 3) := by decide +kernel
theorem dL_law_822 : decode cL_law 822 = .ok (.aload_n 1, 1) := by decide +kernel
theorem dL_law_823 : decode cL_law 823 = .ok (.aload_n 0, 1) := by decide +kernel
theorem dL_law_824 : decode cL_law 824 = .ok (.iload 5, 2) := by decide +kernel
theorem dL_law_826 : decode cL_law 826 = .ok (.iconst 1, 1) := by decide +kernel
theorem dL_law_827 : decode cL_law 827 = .ok (.iadd, 1) := by decide +kernel
theorem dL_law_828 : decode cL_law 828 = .ok (.iaload, 1) := by decide +kernel
theorem dL_law_829 : decode cL_law 829 = .ok (.aload_n 3, 1) := by decide +kernel
theorem dL_law_830 : decode cL_law 830 = .ok (.invokestatic 160, 3) := by decide +kernel
theorem dL_law_833 : decode cL_law 833 = .ok (.istore 6, 2) := by decide +kernel
theorem dL_law_835 : decode cL_law 835 = .ok (.aload_n 2, 1) := by decide +kernel
theorem dL_law_836 : decode cL_law 836 = .ok (.aload_n 0, 1) := by decide +kernel
theorem dL_law_837 : decode cL_law 837 = .ok (.iload 5, 2) := by decide +kernel
theorem dL_law_839 : decode cL_law 839 = .ok (.iconst 1, 1) := by decide +kernel
theorem dL_law_840 : decode cL_law 840 = .ok (.iadd, 1) := by decide +kernel
theorem dL_law_841 : decode cL_law 841 = .ok (.iaload, 1) := by decide +kernel
theorem dL_law_842 : decode cL_law 842 = .ok (.invokevirtual 162, 3) := by decide +kernel
theorem dL_law_845 : decode cL_law 845 = .ok (.istore 7, 2) := by decide +kernel
theorem dL_law_847 : decode cL_law 847 = .ok (.aload_n 2, 1) := by decide +kernel
theorem dL_law_848 : decode cL_law 848 = .ok (.invokevirtual 117, 3) := by decide +kernel
theorem dL_law_851 : decode cL_law 851 = .ok (.iload 6, 2) := by decide +kernel
theorem dL_law_853 : decode cL_law 853 = .ok (.if_icmp .eq 5, 3) := by decide +kernel
theorem dL_law_856 : decode cL_law 856 = .ok (.iconst 0, 1) := by decide +kernel
theorem dL_law_857 : decode cL_law 857 = .ok (.ireturn, 1) := by decide +kernel
theorem dL_law_858 : decode cL_law 858 = .ok (.iload 6, 2) := by decide +kernel
theorem dL_law_860 : decode cL_law 860 = .ok (.ifCond .ne 15, 3) := by decide +kernel
theorem dL_law_863 : decode cL_law 863 = .ok (.aload_n 3, 1) := by decide +kernel
theorem dL_law_864 : decode cL_law 864 = .ok (.iconst 0, 1) := by decide +kernel
theorem dL_law_865 : decode cL_law 865 = .ok (.laload, 1) := by decide +kernel
theorem dL_law_866 : decode cL_law 866 = .ok (.iload 7, 2) := by decide +kernel
theorem dL_law_868 : decode cL_law 868 = .ok (.i2l, 1) := by decide +kernel
theorem dL_law_869 : decode cL_law 869 = .ok (.lcmp, 1) := by decide +kernel
theorem dL_law_870 : decode cL_law 870 = .ok (.ifCond .eq 5, 3) := by decide +kernel
theorem dL_law_873 : decode cL_law 873 = .ok (.iconst 0, 1) := by decide +kernel
theorem dL_law_874 : decode cL_law 874 = .ok (.ireturn, 1) := by decide +kernel
theorem dL_law_875 : decode cL_law 875 = .ok (.goto 855, 3) := by decide +kernel
theorem dL_law_878 : decode cL_law 878 = .ok (.aload_n 1, 1) := by decide +kernel
theorem dL_law_879 : decode cL_law 879 = .ok (.invokevirtual 163, 3) := by decide +kernel
theorem dL_law_882 : decode cL_law 882 = .ok (.aload_n 2, 1) := by decide +kernel
theorem dL_law_883 : decode cL_law 883 = .ok (.invokevirtual 166, 3) := by decide +kernel
theorem dL_law_886 : decode cL_law 886 = .ok (.if_icmp .eq 844, 3) := by decide +kernel
theorem dL_law_889 : decode cL_law 889 = .ok (.iconst 0, 1) := by decide +kernel
theorem dL_law_890 : decode cL_law 890 = .ok (.ireturn, 1) := by decide +kernel
theorem dL_law_891 : decode cL_law 891 = .ok (.aload_n 1, 1) := by decide +kernel
theorem dL_law_892 : decode cL_law 892 = .ok (.aload_n 0, 1) := by decide +kernel
theorem dL_law_893 : decode cL_law 893 = .ok (.iload 5, 2) := by decide +kernel
theorem dL_law_895 : decode cL_law 895 = .ok (.iconst 1, 1) := by decide +kernel
theorem dL_law_896 : decode cL_law 896 = .ok (.iadd, 1) := by decide +kernel
theorem dL_law_897 : decode cL_law 897 = .ok (.iaload, 1) := by decide +kernel
theorem dL_law_898 : decode cL_law 898 = .ok (.aload_n 3, 1) := by decide +kernel
theorem dL_law_899 : decode cL_law 899 = .ok (.invokestatic 167, 3) := by decide +kernel
theorem dL_law_902 : decode cL_law 902 = .ok (.istore 6, 2) := by decide +kernel
theorem dL_law_904 : decode cL_law 904 = .ok (.aload_n 2, 1) := by decide +kernel
theorem dL_law_905 : decode cL_law 905 = .ok (.aload_n 0, 1) := by decide +kernel
theorem dL_law_906 : decode cL_law 906 = .ok (.iload 5, 2) := by decide +kernel
theorem dL_law_908 : decode cL_law 908 = .ok (.iconst 1, 1) := by decide +kernel
theorem dL_law_909 : decode cL_law 909 = .ok (.iadd, 1) := by decide +kernel
theorem dL_law_910 : decode cL_law 910 = .ok (.iaload, 1) := by decide +kernel
theorem dL_law_911 : decode cL_law 911 = .ok (.invokevirtual 169, 3) := by decide +kernel
theorem dL_law_914 : decode cL_law 914 = .ok (.istore 7, 2) := by decide +kernel
theorem dL_law_916 : decode cL_law 916 = .ok (.aload_n 2, 1) := by decide +kernel
theorem dL_law_917 : decode cL_law 917 = .ok (.invokevirtual 117, 3) := by decide +kernel
theorem dL_law_920 : decode cL_law 920 = .ok (.iload 6, 2) := by decide +kernel
theorem dL_law_922 : decode cL_law 922 = .ok (.if_icmp .eq 5, 3) := by decide +kernel
theorem dL_law_925 : decode cL_law 925 = .ok (.iconst 0, 1) := by decide +kernel
theorem dL_law_926 : decode cL_law 926 = .ok (.ireturn, 1) := by decide +kernel
theorem dL_law_927 : decode cL_law 927 = .ok (.iload 6, 2) := by decide +kernel
theorem dL_law_929 : decode cL_law 929 = .ok (.ifCond .ne 15, 3) := by decide +kernel
theorem dL_law_932 : decode cL_law 932 = .ok (.aload_n 3, 1) := by decide +kernel
theorem dL_law_933 : decode cL_law 933 = .ok (.iconst 0, 1) := by decide +kernel
end
section
theorem dL_law_934 : decode cL_law 934 = .ok (.laload, 1) := by decide +kernel
theorem dL_law_935 : decode cL_law 935 = .ok (.iload 7, 2) := by decide +kernel
theorem dL_law_937 : decode cL_law 937 = .ok (.i2l, 1) := by decide +kernel
theorem dL_law_938 : decode cL_law 938 = .ok (.lcmp, 1) := by decide +kernel
theorem dL_law_939 : decode cL_law 939 = .ok (.ifCond .eq 5, 3) := by decide +kernel
theorem dL_law_942 : decode cL_law 942 = .ok (.iconst 0, 1) := by decide +kernel
theorem dL_law_943 : decode cL_law 943 = .ok (.ireturn, 1) := by decide +kernel
theorem dL_law_944 : decode cL_law 944 = .ok (.goto 786, 3) := by decide +kernel
theorem dL_law_947 : decode cL_law 947 = .ok (.aload_n 1, 1) := by decide +kernel
theorem dL_law_948 : decode cL_law 948 = .ok (.aload_n 0, 1) := by decide +kernel
theorem dL_law_949 : decode cL_law 949 = .ok (.iload 5, 2) := by decide +kernel
theorem dL_law_951 : decode cL_law 951 = .ok (.iconst 1, 1) := by decide +kernel
theorem dL_law_952 : decode cL_law 952 = .ok (.iadd, 1) := by decide +kernel
theorem dL_law_953 : decode cL_law 953 = .ok (.iaload, 1) := by decide +kernel
theorem dL_law_954 : decode cL_law 954 = .ok (.aload_n 3, 1) := by decide +kernel
theorem dL_law_955 : decode cL_law 955 = .ok (.invokestatic 170, 3) := by decide +kernel
theorem dL_law_958 : decode cL_law 958 = .ok (.istore 6, 2) := by decide +kernel
theorem dL_law_960 : decode cL_law 960 = .ok (.aload_n 2, 1) := by decide +kernel
theorem dL_law_961 : decode cL_law 961 = .ok (.aload_n 0, 1) := by decide +kernel
theorem dL_law_962 : decode cL_law 962 = .ok (.iload 5, 2) := by decide +kernel
theorem dL_law_964 : decode cL_law 964 = .ok (.iconst 1, 1) := by decide +kernel
theorem dL_law_965 : decode cL_law 965 = .ok (.iadd, 1) := by decide +kernel
theorem dL_law_966 : decode cL_law 966 = .ok (.iaload, 1) := by decide +kernel
theorem dL_law_967 : decode cL_law 967 = .ok (.invokevirtual 172, 3) := by decide +kernel
theorem dL_law_970 : decode cL_law 970 = .ok (.istore 7, 2) := by decide +kernel
theorem dL_law_972 : decode cL_law 972 = .ok (.aload_n 2, 1) := by decide +kernel
theorem dL_law_973 : decode cL_law 973 = .ok (.invokevirtual 117, 3) := by decide +kernel
theorem dL_law_976 : decode cL_law 976 = .ok (.iload 6, 2) := by decide +kernel
theorem dL_law_978 : decode cL_law 978 = .ok (.if_icmp .eq 5, 3) := by decide +kernel
theorem dL_law_981 : decode cL_law 981 = .ok (.iconst 0, 1) := by decide +kernel
theorem dL_law_982 : decode cL_law 982 = .ok (.ireturn, 1) := by decide +kernel
theorem dL_law_983 : decode cL_law 983 = .ok (.iload 6, 2) := by decide +kernel
theorem dL_law_985 : decode cL_law 985 = .ok (.ifCond .ne 15, 3) := by decide +kernel
theorem dL_law_988 : decode cL_law 988 = .ok (.aload_n 3, 1) := by decide +kernel
theorem dL_law_989 : decode cL_law 989 = .ok (.iconst 0, 1) := by decide +kernel
theorem dL_law_990 : decode cL_law 990 = .ok (.laload, 1) := by decide +kernel
theorem dL_law_991 : decode cL_law 991 = .ok (.iload 7, 2) := by decide +kernel
theorem dL_law_993 : decode cL_law 993 = .ok (.i2l, 1) := by decide +kernel
theorem dL_law_994 : decode cL_law 994 = .ok (.lcmp, 1) := by decide +kernel
theorem dL_law_995 : decode cL_law 995 = .ok (.ifCond .eq 5, 3) := by decide +kernel
theorem dL_law_998 : decode cL_law 998 = .ok (.iconst 0, 1) := by decide +kernel
theorem dL_law_999 : decode cL_law 999 = .ok (.ireturn, 1) := by decide +kernel
theorem dL_law_1000 : decode cL_law 1000 = .ok (.goto 730, 3) := by decide +kernel
theorem dL_law_1003 : decode cL_law 1003 = .ok (.aload_n 1, 1) := by decide +kernel
theorem dL_law_1004 : decode cL_law 1004 = .ok (.aload_n 0, 1) := by decide +kernel
theorem dL_law_1005 : decode cL_law 1005 = .ok (.iload 5, 2) := by decide +kernel
theorem dL_law_1007 : decode cL_law 1007 = .ok (.iconst 1, 1) := by decide +kernel
theorem dL_law_1008 : decode cL_law 1008 = .ok (.iadd, 1) := by decide +kernel
theorem dL_law_1009 : decode cL_law 1009 = .ok (.iaload, 1) := by decide +kernel
theorem dL_law_1010 : decode cL_law 1010 = .ok (.aload_n 0, 1) := by decide +kernel
theorem dL_law_1011 : decode cL_law 1011 = .ok (.iload 5, 2) := by decide +kernel
theorem dL_law_1013 : decode cL_law 1013 = .ok (.iconst 2, 1) := by decide +kernel
theorem dL_law_1014 : decode cL_law 1014 = .ok (.iadd, 1) := by decide +kernel
theorem dL_law_1015 : decode cL_law 1015 = .ok (.iaload, 1) := by decide +kernel
theorem dL_law_1016 : decode cL_law 1016 = .ok (.i2c, 1) := by decide +kernel
theorem dL_law_1017 : decode cL_law 1017 = .ok (.aload_n 3, 1) := by decide +kernel
theorem dL_law_1018 : decode cL_law 1018 = .ok (.invokestatic 173, 3) := by decide +kernel
theorem dL_law_1021 : decode cL_law 1021 = .ok (.istore 6, 2) := by decide +kernel
theorem dL_law_1023 : decode cL_law 1023 = .ok (.aload_n 2, 1) := by decide +kernel
theorem dL_law_1024 : decode cL_law 1024 = .ok (.aload_n 0, 1) := by decide +kernel
theorem dL_law_1025 : decode cL_law 1025 = .ok (.iload 5, 2) := by decide +kernel
theorem dL_law_1027 : decode cL_law 1027 = .ok (.iconst 1, 1) := by decide +kernel
theorem dL_law_1028 : decode cL_law 1028 = .ok (.iadd, 1) := by decide +kernel
theorem dL_law_1029 : decode cL_law 1029 = .ok (.iaload, 1) := by decide +kernel
theorem dL_law_1030 : decode cL_law 1030 = .ok (.aload_n 0, 1) := by decide +kernel
theorem dL_law_1031 : decode cL_law 1031 = .ok (.iload 5, 2) := by decide +kernel
theorem dL_law_1033 : decode cL_law 1033 = .ok (.iconst 2, 1) := by decide +kernel
theorem dL_law_1034 : decode cL_law 1034 = .ok (.iadd, 1) := by decide +kernel
theorem dL_law_1035 : decode cL_law 1035 = .ok (.iaload, 1) := by decide +kernel
theorem dL_law_1036 : decode cL_law 1036 = .ok (.i2c, 1) := by decide +kernel
theorem dL_law_1037 : decode cL_law 1037 = .ok (.invokevirtual 176, 3) := by decide +kernel
theorem dL_law_1040 : decode cL_law 1040 = .ok (.istore 7, 2) := by decide +kernel
theorem dL_law_1042 : decode cL_law 1042 = .ok (.aload_n 2, 1) := by decide +kernel
theorem dL_law_1043 : decode cL_law 1043 = .ok (.invokevirtual 117, 3) := by decide +kernel
theorem dL_law_1046 : decode cL_law 1046 = .ok (.iload 6, 2) := by decide +kernel
theorem dL_law_1048 : decode cL_law 1048 = .ok (.if_icmp .eq 5, 3) := by decide +kernel
theorem dL_law_1051 : decode cL_law 1051 = .ok (.iconst 0, 1) := by decide +kernel
theorem dL_law_1052 : decode cL_law 1052 = .ok (.ireturn, 1) := by decide +kernel
theorem dL_law_1053 : decode cL_law 1053 = .ok (.iload 6, 2) := by decide +kernel
theorem dL_law_1055 : decode cL_law 1055 = .ok (.ifCond .ne 15, 3) := by decide +kernel
theorem dL_law_1058 : decode cL_law 1058 = .ok (.aload_n 3, 1) := by decide +kernel
theorem dL_law_1059 : decode cL_law 1059 = .ok (.iconst 0, 1) := by decide +kernel
theorem dL_law_1060 : decode cL_law 1060 = .ok (.laload, 1) := by decide +kernel
theorem dL_law_1061 : decode cL_law 1061 = .ok (.iload 7, 2) := by decide +kernel
theorem dL_law_1063 : decode cL_law 1063 = .ok (.i2l, 1) := by decide +kernel
theorem dL_law_1064 : decode cL_law 1064 = .ok (.lcmp, 1) := by decide +kernel
theorem dL_law_1065 : decode cL_law 1065 = .ok (.ifCond .eq 5, 3) := by decide +kernel
theorem dL_law_1068 : decode cL_law 1068 = .ok (.iconst 0, 1) := by decide +kernel
theorem dL_law_1069 : decode cL_law 1069 = .ok (.ireturn, 1) := by decide +kernel
theorem dL_law_1070 : decode cL_law 1070 = .ok (.goto 660, 3) := by decide +kernel
theorem dL_law_1073 : decode cL_law 1073 = .ok (.aload_n 1, 1) := by decide +kernel
theorem dL_law_1074 : decode cL_law 1074 = .ok (.aload_n 0, 1) := by decide +kernel
theorem dL_law_1075 : decode cL_law 1075 = .ok (.iload 5, 2) := by decide +kernel
theorem dL_law_1077 : decode cL_law 1077 = .ok (.iconst 1, 1) := by decide +kernel
theorem dL_law_1078 : decode cL_law 1078 = .ok (.iadd, 1) := by decide +kernel
theorem dL_law_1079 : decode cL_law 1079 = .ok (.iaload, 1) := by decide +kernel
theorem dL_law_1080 : decode cL_law 1080 = .ok (.aload_n 3, 1) := by decide +kernel
theorem dL_law_1081 : decode cL_law 1081 = .ok (.invokestatic 177, 3) := by decide +kernel
theorem dL_law_1084 : decode cL_law 1084 = .ok (.istore 6, 2) := by decide +kernel
theorem dL_law_1086 : decode cL_law 1086 = .ok (.aload_n 2, 1) := by decide +kernel
theorem dL_law_1087 : decode cL_law 1087 = .ok (.aload_n 0, 1) := by decide +kernel
theorem dL_law_1088 : decode cL_law 1088 = .ok (.iload 5, 2) := by decide +kernel
theorem dL_law_1090 : decode cL_law 1090 = .ok (.iconst 1, 1) := by decide +kernel
theorem dL_law_1091 : decode cL_law 1091 = .ok (.iadd, 1) := by decide +kernel
theorem dL_law_1092 : decode cL_law 1092 = .ok (.iaload, 1) := by decide +kernel
theorem dL_law_1093 : decode cL_law 1093 = .ok (.invokevirtual 179, 3) := by decide +kernel
theorem dL_law_1096 : decode cL_law 1096 = .ok (.istore 7, 2) := by decide +kernel
theorem dL_law_1098 : decode cL_law 1098 = .ok (.aload_n 2, 1) := by decide +kernel
theorem dL_law_1099 : decode cL_law 1099 = .ok (.invokevirtual 117, 3) := by decide +kernel
theorem dL_law_1102 : decode cL_law 1102 = .ok (.iload 6, 2) := by decide +kernel
theorem dL_law_1104 : decode cL_law 1104 = .ok (.if_icmp .eq 5, 3) := by decide +kernel
theorem dL_law_1107 : decode cL_law 1107 = .ok (.iconst 0, 1) := by decide +kernel
theorem dL_law_1108 : decode cL_law 1108 = .ok (.ireturn, 1) := by decide +kernel
theorem dL_law_1109 : decode cL_law 1109 = .ok (.iload 6, 2) := by decide +kernel
theorem dL_law_1111 : decode cL_law 1111 = .ok (.ifCond .ne 15, 3) := by decide +kernel
theorem dL_law_1114 : decode cL_law 1114 = .ok (.aload_n 3, 1) := by decide +kernel
theorem dL_law_1115 : decode cL_law 1115 = .ok (.iconst 0, 1) := by decide +kernel
theorem dL_law_1116 : decode cL_law 1116 = .ok (.laload, 1) := by decide +kernel
theorem dL_law_1117 : decode cL_law 1117 = .ok (.iload 7, 2) := by decide +kernel
theorem dL_law_1119 : decode cL_law 1119 = .ok (.i2l, 1) := by decide +kernel
theorem dL_law_1120 : decode cL_law 1120 = .ok (.lcmp, 1) := by decide +kernel
theorem dL_law_1121 : decode cL_law 1121 = .ok (.ifCond .eq 5, 3) := by decide +kernel
theorem dL_law_1124 : decode cL_law 1124 = .ok (.iconst 0, 1) := by decide +kernel
theorem dL_law_1125 : decode cL_law 1125 = .ok (.ireturn, 1) := by decide +kernel
theorem dL_law_1126 : decode cL_law 1126 = .ok (.goto 604, 3) := by decide +kernel
theorem dL_law_1129 : decode cL_law 1129 = .ok (.aload_n 1, 1) := by decide +kernel
theorem dL_law_1130 : decode cL_law 1130 = .ok (.invokevirtual 180, 3) := by decide +kernel
theorem dL_law_1133 : decode cL_law 1133 = .ok (.aload_n 2, 1) := by decide +kernel
theorem dL_law_1134 : decode cL_law 1134 = .ok (.invokevirtual 183, 3) := by decide +kernel
theorem dL_law_1137 : decode cL_law 1137 = .ok (.if_icmp .eq 593, 3) := by decide +kernel
theorem dL_law_1140 : decode cL_law 1140 = .ok (.iconst 0, 1) := by decide +kernel
theorem dL_law_1141 : decode cL_law 1141 = .ok (.ireturn, 1) := by decide +kernel
theorem dL_law_1142 : decode cL_law 1142 = .ok (.aload_n 1, 1) := by decide +kernel
theorem dL_law_1143 : decode cL_law 1143 = .ok (.aload_n 0, 1) := by decide +kernel
theorem dL_law_1144 : decode cL_law 1144 = .ok (.iload 5, 2) := by decide +kernel
theorem dL_law_1146 : decode cL_law 1146 = .ok (.iconst 1, 1) := by decide +kernel
theorem dL_law_1147 : decode cL_law 1147 = .ok (.iadd, 1) := by decide +kernel
theorem dL_law_1148 : decode cL_law 1148 = .ok (.iaload, 1) := by decide +kernel
theorem dL_law_1149 : decode cL_law 1149 = .ok (.aload_n 3, 1) := by decide +kernel
theorem dL_law_1150 : decode cL_law 1150 = .ok (.invokestatic 184, 3) := by decide +kernel
theorem dL_law_1153 : decode cL_law 1153 = .ok (.istore 6, 2) := by decide +kernel
theorem dL_law_1155 : decode cL_law 1155 = .ok (.aload_n 2, 1) := by decide +kernel
theorem dL_law_1156 : decode cL_law 1156 = .ok (.aload_n 0, 1) := by decide +kernel
theorem dL_law_1157 : decode cL_law 1157 = .ok (.iload 5, 2) := by decide +kernel
theorem dL_law_1159 : decode cL_law 1159 = .ok (.iconst 1, 1) := by decide +kernel
theorem dL_law_1160 : decode cL_law 1160 = .ok (.iadd, 1) := by decide +kernel
theorem dL_law_1161 : decode cL_law 1161 = .ok (.iaload, 1) := by decide +kernel
theorem dL_law_1162 : decode cL_law 1162 = .ok (.invokevirtual 186, 3) := by decide +kernel
theorem dL_law_1165 : decode cL_law 1165 = .ok (.istore 7, 2) := by decide +kernel
theorem dL_law_1167 : decode cL_law 1167 = .ok (.aload_n 2, 1) := by decide +kernel
theorem dL_law_1168 : decode cL_law 1168 = .ok (.invokevirtual 117, 3) := by decide +kernel
theorem dL_law_1171 : decode cL_law 1171 = .ok (.iload 6, 2) := by decide +kernel
theorem dL_law_1173 : decode cL_law 1173 = .ok (.if_icmp .eq 5, 3) := by decide +kernel
theorem dL_law_1176 : decode cL_law 1176 = .ok (.iconst 0, 1) := by decide +kernel
theorem dL_law_1177 : decode cL_law 1177 = .ok (.ireturn, 1) := by decide +kernel
theorem dL_law_1178 : decode cL_law 1178 = .ok (.iload 6, 2) := by decide +kernel
theorem dL_law_1180 : decode cL_law 1180 = .ok (.ifCond .ne 15, 3) := by decide +kernel
theorem dL_law_1183 : decode cL_law 1183 = .ok (.aload_n 3, 1) := by decide +kernel
theorem dL_law_1184 : decode cL_law 1184 = .ok (.iconst 0, 1) := by decide +kernel
theorem dL_law_1185 : decode cL_law 1185 = .ok (.laload, 1) := by decide +kernel
theorem dL_law_1186 : decode cL_law 1186 = .ok (.iload 7, 2) := by decide +kernel
theorem dL_law_1188 : decode cL_law 1188 = .ok (.i2l, 1) := by decide +kernel
theorem dL_law_1189 : decode cL_law 1189 = .ok (.lcmp, 1) := by decide +kernel
theorem dL_law_1190 : decode cL_law 1190 = .ok (.ifCond .eq 5, 3) := by decide +kernel
theorem dL_law_1193 : decode cL_law 1193 = .ok (.iconst 0, 1) := by decide +kernel
theorem dL_law_1194 : decode cL_law 1194 = .ok (.ireturn, 1) := by decide +kernel
theorem dL_law_1195 : decode cL_law 1195 = .ok (.goto 535, 3) := by decide +kernel
theorem dL_law_1198 : decode cL_law 1198 = .ok (.aload_n 1, 1) := by decide +kernel
theorem dL_law_1199 : decode cL_law 1199 = .ok (.aload_n 0, 1) := by decide +kernel
theorem dL_law_1200 : decode cL_law 1200 = .ok (.iload 5, 2) := by decide +kernel
theorem dL_law_1202 : decode cL_law 1202 = .ok (.iconst 1, 1) := by decide +kernel
theorem dL_law_1203 : decode cL_law 1203 = .ok (.iadd, 1) := by decide +kernel
theorem dL_law_1204 : decode cL_law 1204 = .ok (.iaload, 1) := by decide +kernel
theorem dL_law_1205 : decode cL_law 1205 = .ok (.aload_n 0, 1) := by decide +kernel
theorem dL_law_1206 : decode cL_law 1206 = .ok (.iload 5, 2) := by decide +kernel
theorem dL_law_1208 : decode cL_law 1208 = .ok (.iconst 2, 1) := by decide +kernel
theorem dL_law_1209 : decode cL_law 1209 = .ok (.iadd, 1) := by decide +kernel
theorem dL_law_1210 : decode cL_law 1210 = .ok (.iaload, 1) := by decide +kernel
theorem dL_law_1211 : decode cL_law 1211 = .ok (.aload_n 3, 1) := by decide +kernel
theorem dL_law_1212 : decode cL_law 1212 = .ok (.invokestatic 187, 3) := by decide +kernel
theorem dL_law_1215 : decode cL_law 1215 = .ok (.istore 6, 2) := by decide +kernel
theorem dL_law_1217 : decode cL_law 1217 = .ok (.aload_n 2, 1) := by decide +kernel
theorem dL_law_1218 : decode cL_law 1218 = .ok (.aload_n 0, 1) := by decide +kernel
theorem dL_law_1219 : decode cL_law 1219 = .ok (.iload 5, 2) := by decide +kernel
theorem dL_law_1221 : decode cL_law 1221 = .ok (.iconst 1, 1) := by decide +kernel
theorem dL_law_1222 : decode cL_law 1222 = .ok (.iadd, 1) := by decide +kernel
theorem dL_law_1223 : decode cL_law 1223 = .ok (.iaload, 1) := by decide +kernel
theorem dL_law_1224 : decode cL_law 1224 = .ok (.aload_n 0, 1) := by decide +kernel
theorem dL_law_1225 : decode cL_law 1225 = .ok (.iload 5, 2) := by decide +kernel
theorem dL_law_1227 : decode cL_law 1227 = .ok (.iconst 2, 1) := by decide +kernel
theorem dL_law_1228 : decode cL_law 1228 = .ok (.iadd, 1) := by decide +kernel
theorem dL_law_1229 : decode cL_law 1229 = .ok (.iaload, 1) := by decide +kernel
theorem dL_law_1230 : decode cL_law 1230 = .ok (.invokevirtual 189, 3) := by decide +kernel
theorem dL_law_1233 : decode cL_law 1233 = .ok (.istore 7, 2) := by decide +kernel
theorem dL_law_1235 : decode cL_law 1235 = .ok (.aload_n 2, 1) := by decide +kernel
theorem dL_law_1236 : decode cL_law 1236 = .ok (.invokevirtual 117, 3) := by decide +kernel
theorem dL_law_1239 : decode cL_law 1239 = .ok (.iload 6, 2) := by decide +kernel
theorem dL_law_1241 : decode cL_law 1241 = .ok (.if_icmp .eq 5, 3) := by decide +kernel
theorem dL_law_1244 : decode cL_law 1244 = .ok (.iconst 0, 1) := by decide +kernel
theorem dL_law_1245 : decode cL_law 1245 = .ok (.ireturn, 1) := by decide +kernel
theorem dL_law_1246 : decode cL_law 1246 = .ok (.iload 6, 2) := by decide +kernel
theorem dL_law_1248 : decode cL_law 1248 = .ok (.ifCond .ne 15, 3) := by decide +kernel
theorem dL_law_1251 : decode cL_law 1251 = .ok (.aload_n 3, 1) := by decide +kernel
theorem dL_law_1252 : decode cL_law 1252 = .ok (.iconst 0, 1) := by decide +kernel
theorem dL_law_1253 : decode cL_law 1253 = .ok (.laload, 1) := by decide +kernel
theorem dL_law_1254 : decode cL_law 1254 = .ok (.iload 7, 2) := by decide +kernel
theorem dL_law_1256 : decode cL_law 1256 = .ok (.i2l, 1) := by decide +kernel
theorem dL_law_1257 : decode cL_law 1257 = .ok (.lcmp, 1) := by decide +kernel
theorem dL_law_1258 : decode cL_law 1258 = .ok (.ifCond .eq 5, 3) := by decide +kernel
theorem dL_law_1261 : decode cL_law 1261 = .ok (.iconst 0, 1) := by decide +kernel
theorem dL_law_1262 : decode cL_law 1262 = .ok (.ireturn, 1) := by decide +kernel
theorem dL_law_1263 : decode cL_law 1263 = .ok (.goto 467, 3) := by decide +kernel
theorem dL_law_1266 : decode cL_law 1266 = .ok (.aload_n 1, 1) := by decide +kernel
theorem dL_law_1267 : decode cL_law 1267 = .ok (.aload_n 0, 1) := by decide +kernel
theorem dL_law_1268 : decode cL_law 1268 = .ok (.iload 5, 2) := by decide +kernel
theorem dL_law_1270 : decode cL_law 1270 = .ok (.iconst 1, 1) := by decide +kernel
theorem dL_law_1271 : decode cL_law 1271 = .ok (.iadd, 1) := by decide +kernel
theorem dL_law_1272 : decode cL_law 1272 = .ok (.iaload, 1) := by decide +kernel
theorem dL_law_1273 : decode cL_law 1273 = .ok (.aload_n 3, 1) := by decide +kernel
theorem dL_law_1274 : decode cL_law 1274 = .ok (.invokestatic 190, 3) := by decide +kernel
theorem dL_law_1277 : decode cL_law 1277 = .ok (.istore 6, 2) := by decide +kernel
theorem dL_law_1279 : decode cL_law 1279 = .ok (.aload_n 2, 1) := by decide +kernel
theorem dL_law_1280 : decode cL_law 1280 = .ok (.aload_n 0, 1) := by decide +kernel
theorem dL_law_1281 : decode cL_law 1281 = .ok (.iload 5, 2) := by decide +kernel
theorem dL_law_1283 : decode cL_law 1283 = .ok (.iconst 1, 1) := by decide +kernel
theorem dL_law_1284 : decode cL_law 1284 = .ok (.iadd, 1) := by decide +kernel
theorem dL_law_1285 : decode cL_law 1285 = .ok (.iaload, 1) := by decide +kernel
theorem dL_law_1286 : decode cL_law 1286 = .ok (.invokevirtual 192, 3) := by decide +kernel
theorem dL_law_1289 : decode cL_law 1289 = .ok (.istore 7, 2) := by decide +kernel
theorem dL_law_1291 : decode cL_law 1291 = .ok (.aload_n 2, 1) := by decide +kernel
theorem dL_law_1292 : decode cL_law 1292 = .ok (.invokevirtual 117, 3) := by decide +kernel
theorem dL_law_1295 : decode cL_law 1295 = .ok (.iload 6, 2) := by decide +kernel
theorem dL_law_1297 : decode cL_law 1297 = .ok (.if_icmp .eq 5, 3) := by decide +kernel
theorem dL_law_1300 : decode cL_law 1300 = .ok (.iconst 0, 1) := by decide +kernel
theorem dL_law_1301 : decode cL_law 1301 = .ok (.ireturn, 1) := by decide +kernel
theorem dL_law_1302 : decode cL_law 1302 = .ok (.iload 6, 2) := by decide +kernel
theorem dL_law_1304 : decode cL_law 1304 = .ok (.ifCond .ne 15, 3) := by decide +kernel
theorem dL_law_1307 : decode cL_law 1307 = .ok (.aload_n 3, 1) := by decide +kernel
theorem dL_law_1308 : decode cL_law 1308 = .ok (.iconst 0, 1) := by decide +kernel
theorem dL_law_1309 : decode cL_law 1309 = .ok (.laload, 1) := by decide +kernel
theorem dL_law_1310 : decode cL_law 1310 = .ok (.iload 7, 2) := by decide +kernel
theorem dL_law_1312 : decode cL_law 1312 = .ok (.i2l, 1) := by decide +kernel
theorem dL_law_1313 : decode cL_law 1313 = .ok (.lcmp, 1) := by decide +kernel
theorem dL_law_1314 : decode cL_law 1314 = .ok (.ifCond .eq 5, 3) := by decide +kernel
theorem dL_law_1317 : decode cL_law 1317 = .ok (.iconst 0, 1) := by decide +kernel
theorem dL_law_1318 : decode cL_law 1318 = .ok (.ireturn, 1) := by decide +kernel
theorem dL_law_1319 : decode cL_law 1319 = .ok (.goto 411, 3) := by decide +kernel
theorem dL_law_1322 : decode cL_law 1322 = .ok (.aload_n 1, 1) := by decide +kernel
end
section
theorem dL_law_1323 : decode cL_law 1323 = .ok (.aload_n 0, 1) := by decide +kernel
theorem dL_law_1324 : decode cL_law 1324 = .ok (.iload 5, 2) := by decide +kernel
theorem dL_law_1326 : decode cL_law 1326 = .ok (.iconst 1, 1) := by decide +kernel
theorem dL_law_1327 : decode cL_law 1327 = .ok (.iadd, 1) := by decide +kernel
theorem dL_law_1328 : decode cL_law 1328 = .ok (.iaload, 1) := by decide +kernel
theorem dL_law_1329 : decode cL_law 1329 = .ok (.aload_n 3, 1) := by decide +kernel
theorem dL_law_1330 : decode cL_law 1330 = .ok (.invokestatic 193, 3) := by decide +kernel
theorem dL_law_1333 : decode cL_law 1333 = .ok (.istore 6, 2) := by decide +kernel
theorem dL_law_1335 : decode cL_law 1335 = .ok (.aload_n 2, 1) := by decide +kernel
theorem dL_law_1336 : decode cL_law 1336 = .ok (.aload_n 0, 1) := by decide +kernel
theorem dL_law_1337 : decode cL_law 1337 = .ok (.iload 5, 2) := by decide +kernel
theorem dL_law_1339 : decode cL_law 1339 = .ok (.iconst 1, 1) := by decide +kernel
theorem dL_law_1340 : decode cL_law 1340 = .ok (.iadd, 1) := by decide +kernel
theorem dL_law_1341 : decode cL_law 1341 = .ok (.iaload, 1) := by decide +kernel
theorem dL_law_1342 : decode cL_law 1342 = .ok (.invokevirtual 195, 3) := by decide +kernel
theorem dL_law_1345 : decode cL_law 1345 = .ok (.istore 7, 2) := by decide +kernel
theorem dL_law_1347 : decode cL_law 1347 = .ok (.aload_n 2, 1) := by decide +kernel
theorem dL_law_1348 : decode cL_law 1348 = .ok (.invokevirtual 117, 3) := by decide +kernel
theorem dL_law_1351 : decode cL_law 1351 = .ok (.iload 6, 2) := by decide +kernel
theorem dL_law_1353 : decode cL_law 1353 = .ok (.if_icmp .eq 5, 3) := by decide +kernel
theorem dL_law_1356 : decode cL_law 1356 = .ok (.iconst 0, 1) := by decide +kernel
theorem dL_law_1357 : decode cL_law 1357 = .ok (.ireturn, 1) := by decide +kernel
theorem dL_law_1358 : decode cL_law 1358 = .ok (.iload 6, 2) := by decide +kernel
theorem dL_law_1360 : decode cL_law 1360 = .ok (.ifCond .ne 15, 3) := by decide +kernel
theorem dL_law_1363 : decode cL_law 1363 = .ok (.aload_n 3, 1) := by decide +kernel
theorem dL_law_1364 : decode cL_law 1364 = .ok (.iconst 0, 1) := by decide +kernel
theorem dL_law_1365 : decode cL_law 1365 = .ok (.laload, 1) := by decide +kernel
theorem dL_law_1366 : decode cL_law 1366 = .ok (.iload 7, 2) := by decide +kernel
theorem dL_law_1368 : decode cL_law 1368 = .ok (.i2l, 1) := by decide +kernel
theorem dL_law_1369 : decode cL_law 1369 = .ok (.lcmp, 1) := by decide +kernel
theorem dL_law_1370 : decode cL_law 1370 = .ok (.ifCond .eq 5, 3) := by decide +kernel
theorem dL_law_1373 : decode cL_law 1373 = .ok (.iconst 0, 1) := by decide +kernel
theorem dL_law_1374 : decode cL_law 1374 = .ok (.ireturn, 1) := by decide +kernel
theorem dL_law_1375 : decode cL_law 1375 = .ok (.goto 355, 3) := by decide +kernel
theorem dL_law_1378 : decode cL_law 1378 = .ok (.aload_n 1, 1) := by decide +kernel
theorem dL_law_1379 : decode cL_law 1379 = .ok (.aload_n 0, 1) := by decide +kernel
theorem dL_law_1380 : decode cL_law 1380 = .ok (.iload 5, 2) := by decide +kernel
theorem dL_law_1382 : decode cL_law 1382 = .ok (.iconst 1, 1) := by decide +kernel
theorem dL_law_1383 : decode cL_law 1383 = .ok (.iadd, 1) := by decide +kernel
theorem dL_law_1384 : decode cL_law 1384 = .ok (.iaload, 1) := by decide +kernel
theorem dL_law_1385 : decode cL_law 1385 = .ok (.aload_n 3, 1) := by decide +kernel
theorem dL_law_1386 : decode cL_law 1386 = .ok (.invokestatic 196, 3) := by decide +kernel
theorem dL_law_1389 : decode cL_law 1389 = .ok (.istore 6, 2) := by decide +kernel
theorem dL_law_1391 : decode cL_law 1391 = .ok (.aload_n 2, 1) := by decide +kernel
theorem dL_law_1392 : decode cL_law 1392 = .ok (.aload_n 0, 1) := by decide +kernel
theorem dL_law_1393 : decode cL_law 1393 = .ok (.iload 5, 2) := by decide +kernel
theorem dL_law_1395 : decode cL_law 1395 = .ok (.iconst 1, 1) := by decide +kernel
theorem dL_law_1396 : decode cL_law 1396 = .ok (.iadd, 1) := by decide +kernel
theorem dL_law_1397 : decode cL_law 1397 = .ok (.iaload, 1) := by decide +kernel
theorem dL_law_1398 : decode cL_law 1398 = .ok (.invokevirtual 198, 3) := by decide +kernel
theorem dL_law_1401 : decode cL_law 1401 = .ok (.lstore 7, 2) := by decide +kernel
theorem dL_law_1403 : decode cL_law 1403 = .ok (.aload_n 2, 1) := by decide +kernel
theorem dL_law_1404 : decode cL_law 1404 = .ok (.invokevirtual 117, 3) := by decide +kernel
theorem dL_law_1407 : decode cL_law 1407 = .ok (.iload 6, 2) := by decide +kernel
theorem dL_law_1409 : decode cL_law 1409 = .ok (.if_icmp .eq 5, 3) := by decide +kernel
theorem dL_law_1412 : decode cL_law 1412 = .ok (.iconst 0, 1) := by decide +kernel
theorem dL_law_1413 : decode cL_law 1413 = .ok (.ireturn, 1) := by decide +kernel
theorem dL_law_1414 : decode cL_law 1414 = .ok (.iload 6, 2) := by decide +kernel
theorem dL_law_1416 : decode cL_law 1416 = .ok (.ifCond .ne 14, 3) := by decide +kernel
theorem dL_law_1419 : decode cL_law 1419 = .ok (.aload_n 3, 1) := by decide +kernel
theorem dL_law_1420 : decode cL_law 1420 = .ok (.iconst 0, 1) := by decide +kernel
theorem dL_law_1421 : decode cL_law 1421 = .ok (.laload, 1) := by decide +kernel
theorem dL_law_1422 : decode cL_law 1422 = .ok (.lload 7, 2) := by decide +kernel
theorem dL_law_1424 : decode cL_law 1424 = .ok (.lcmp, 1) := by decide +kernel
theorem dL_law_1425 : decode cL_law 1425 = .ok (.ifCond .eq 5, 3) := by decide +kernel
theorem dL_law_1428 : decode cL_law 1428 = .ok (.iconst 0, 1) := by decide +kernel
theorem dL_law_1429 : decode cL_law 1429 = .ok (.ireturn, 1) := by decide +kernel
theorem dL_law_1430 : decode cL_law 1430 = .ok (.goto 300, 3) := by decide +kernel
theorem dL_law_1433 : decode cL_law 1433 = .ok (.aload_n 1, 1) := by decide +kernel
theorem dL_law_1434 : decode cL_law 1434 = .ok (.aload_n 0, 1) := by decide +kernel
theorem dL_law_1435 : decode cL_law 1435 = .ok (.iload 5, 2) := by decide +kernel
theorem dL_law_1437 : decode cL_law 1437 = .ok (.iconst 1, 1) := by decide +kernel
theorem dL_law_1438 : decode cL_law 1438 = .ok (.iadd, 1) := by decide +kernel
theorem dL_law_1439 : decode cL_law 1439 = .ok (.iaload, 1) := by decide +kernel
theorem dL_law_1440 : decode cL_law 1440 = .ok (.aload_n 3, 1) := by decide +kernel
theorem dL_law_1441 : decode cL_law 1441 = .ok (.invokestatic 199, 3) := by decide +kernel
theorem dL_law_1444 : decode cL_law 1444 = .ok (.istore 6, 2) := by decide +kernel
theorem dL_law_1446 : decode cL_law 1446 = .ok (.aload_n 2, 1) := by decide +kernel
theorem dL_law_1447 : decode cL_law 1447 = .ok (.aload_n 0, 1) := by decide +kernel
theorem dL_law_1448 : decode cL_law 1448 = .ok (.iload 5, 2) := by decide +kernel
theorem dL_law_1450 : decode cL_law 1450 = .ok (.iconst 1, 1) := by decide +kernel
theorem dL_law_1451 : decode cL_law 1451 = .ok (.iadd, 1) := by decide +kernel
theorem dL_law_1452 : decode cL_law 1452 = .ok (.iaload, 1) := by decide +kernel
theorem dL_law_1453 : decode cL_law 1453 = .ok (.invokevirtual 201, 3) := by decide +kernel
theorem dL_law_1456 : decode cL_law 1456 = .ok (.lstore 7, 2) := by decide +kernel
theorem dL_law_1458 : decode cL_law 1458 = .ok (.aload_n 2, 1) := by decide +kernel
theorem dL_law_1459 : decode cL_law 1459 = .ok (.invokevirtual 117, 3) := by decide +kernel
theorem dL_law_1462 : decode cL_law 1462 = .ok (.iload 6, 2) := by decide +kernel
theorem dL_law_1464 : decode cL_law 1464 = .ok (.if_icmp .eq 5, 3) := by decide +kernel
theorem dL_law_1467 : decode cL_law 1467 = .ok (.iconst 0, 1) := by decide +kernel
theorem dL_law_1468 : decode cL_law 1468 = .ok (.ireturn, 1) := by decide +kernel
theorem dL_law_1469 : decode cL_law 1469 = .ok (.iload 6, 2) := by decide +kernel
theorem dL_law_1471 : decode cL_law 1471 = .ok (.ifCond .ne 14, 3) := by decide +kernel
theorem dL_law_1474 : decode cL_law 1474 = .ok (.aload_n 3, 1) := by decide +kernel
theorem dL_law_1475 : decode cL_law 1475 = .ok (.iconst 0, 1) := by decide +kernel
theorem dL_law_1476 : decode cL_law 1476 = .ok (.laload, 1) := by decide +kernel
theorem dL_law_1477 : decode cL_law 1477 = .ok (.lload 7, 2) := by decide +kernel
theorem dL_law_1479 : decode cL_law 1479 = .ok (.lcmp, 1) := by decide +kernel
theorem dL_law_1480 : decode cL_law 1480 = .ok (.ifCond .eq 5, 3) := by decide +kernel
theorem dL_law_1483 : decode cL_law 1483 = .ok (.iconst 0, 1) := by decide +kernel
theorem dL_law_1484 : decode cL_law 1484 = .ok (.ireturn, 1) := by decide +kernel
theorem dL_law_1485 : decode cL_law 1485 = .ok (.goto 245, 3) := by decide +kernel
theorem dL_law_1488 : decode cL_law 1488 = .ok (.aload_n 1, 1) := by decide +kernel
theorem dL_law_1489 : decode cL_law 1489 = .ok (.aload_n 0, 1) := by decide +kernel
theorem dL_law_1490 : decode cL_law 1490 = .ok (.iload 5, 2) := by decide +kernel
theorem dL_law_1492 : decode cL_law 1492 = .ok (.iconst 1, 1) := by decide +kernel
theorem dL_law_1493 : decode cL_law 1493 = .ok (.iadd, 1) := by decide +kernel
theorem dL_law_1494 : decode cL_law 1494 = .ok (.iaload, 1) := by decide +kernel
theorem dL_law_1495 : decode cL_law 1495 = .ok (.aload_n 3, 1) := by decide +kernel
theorem dL_law_1496 : decode cL_law 1496 = .ok (.invokestatic 202, 3) := by decide +kernel
theorem dL_law_1499 : decode cL_law 1499 = .ok (.istore 6, 2) := by decide +kernel
theorem dL_law_1501 : decode cL_law 1501 = .ok (.aload_n 2, 1) := by decide +kernel
theorem dL_law_1502 : decode cL_law 1502 = .ok (.aload_n 0, 1) := by decide +kernel
theorem dL_law_1503 : decode cL_law 1503 = .ok (.iload 5, 2) := by decide +kernel
theorem dL_law_1505 : decode cL_law 1505 = .ok (.iconst 1, 1) := by decide +kernel
theorem dL_law_1506 : decode cL_law 1506 = .ok (.iadd, 1) := by decide +kernel
theorem dL_law_1507 : decode cL_law 1507 = .ok (.iaload, 1) := by decide +kernel
theorem dL_law_1508 : decode cL_law 1508 = .ok (.invokevirtual 204, 3) := by decide +kernel
theorem dL_law_1511 : decode cL_law 1511 = .ok (.lstore 7, 2) := by decide +kernel
theorem dL_law_1513 : decode cL_law 1513 = .ok (.aload_n 2, 1) := by decide +kernel
theorem dL_law_1514 : decode cL_law 1514 = .ok (.invokevirtual 117, 3) := by decide +kernel
theorem dL_law_1517 : decode cL_law 1517 = .ok (.iload 6, 2) := by decide +kernel
theorem dL_law_1519 : decode cL_law 1519 = .ok (.if_icmp .eq 5, 3) := by decide +kernel
theorem dL_law_1522 : decode cL_law 1522 = .ok (.iconst 0, 1) := by decide +kernel
theorem dL_law_1523 : decode cL_law 1523 = .ok (.ireturn, 1) := by decide +kernel
theorem dL_law_1524 : decode cL_law 1524 = .ok (.iload 6, 2) := by decide +kernel
theorem dL_law_1526 : decode cL_law 1526 = .ok (.ifCond .ne 14, 3) := by decide +kernel
theorem dL_law_1529 : decode cL_law 1529 = .ok (.aload_n 3, 1) := by decide +kernel
theorem dL_law_1530 : decode cL_law 1530 = .ok (.iconst 0, 1) := by decide +kernel
theorem dL_law_1531 : decode cL_law 1531 = .ok (.laload, 1) := by decide +kernel
theorem dL_law_1532 : decode cL_law 1532 = .ok (.lload 7, 2) := by decide +kernel
theorem dL_law_1534 : decode cL_law 1534 = .ok (.lcmp, 1) := by decide +kernel
theorem dL_law_1535 : decode cL_law 1535 = .ok (.ifCond .eq 5, 3) := by decide +kernel
theorem dL_law_1538 : decode cL_law 1538 = .ok (.iconst 0, 1) := by decide +kernel
theorem dL_law_1539 : decode cL_law 1539 = .ok (.ireturn, 1) := by decide +kernel
theorem dL_law_1540 : decode cL_law 1540 = .ok (.goto 190, 3) := by decide +kernel
theorem dL_law_1543 : decode cL_law 1543 = .ok (.aload_n 1, 1) := by decide +kernel
theorem dL_law_1544 : decode cL_law 1544 = .ok (.aload_n 0, 1) := by decide +kernel
theorem dL_law_1545 : decode cL_law 1545 = .ok (.iload 5, 2) := by decide +kernel
theorem dL_law_1547 : decode cL_law 1547 = .ok (.iconst 1, 1) := by decide +kernel
theorem dL_law_1548 : decode cL_law 1548 = .ok (.iadd, 1) := by decide +kernel
theorem dL_law_1549 : decode cL_law 1549 = .ok (.iaload, 1) := by decide +kernel
theorem dL_law_1550 : decode cL_law 1550 = .ok (.aload_n 3, 1) := by decide +kernel
theorem dL_law_1551 : decode cL_law 1551 = .ok (.invokestatic 205, 3) := by decide +kernel
theorem dL_law_1554 : decode cL_law 1554 = .ok (.istore 6, 2) := by decide +kernel
theorem dL_law_1556 : decode cL_law 1556 = .ok (.aload_n 2, 1) := by decide +kernel
theorem dL_law_1557 : decode cL_law 1557 = .ok (.aload_n 0, 1) := by decide +kernel
theorem dL_law_1558 : decode cL_law 1558 = .ok (.iload 5, 2) := by decide +kernel
theorem dL_law_1560 : decode cL_law 1560 = .ok (.iconst 1, 1) := by decide +kernel
theorem dL_law_1561 : decode cL_law 1561 = .ok (.iadd, 1) := by decide +kernel
theorem dL_law_1562 : decode cL_law 1562 = .ok (.iaload, 1) := by decide +kernel
theorem dL_law_1563 : decode cL_law 1563 = .ok (.invokevirtual 207, 3) := by decide +kernel
theorem dL_law_1566 : decode cL_law 1566 = .ok (.istore 7, 2) := by decide +kernel
theorem dL_law_1568 : decode cL_law 1568 = .ok (.aload_n 2, 1) := by decide +kernel
theorem dL_law_1569 : decode cL_law 1569 = .ok (.invokevirtual 117, 3) := by decide +kernel
theorem dL_law_1572 : decode cL_law 1572 = .ok (.iload 6, 2) := by decide +kernel
theorem dL_law_1574 : decode cL_law 1574 = .ok (.if_icmp .eq 5, 3) := by decide +kernel
theorem dL_law_1577 : decode cL_law 1577 = .ok (.iconst 0, 1) := by decide +kernel
theorem dL_law_1578 : decode cL_law 1578 = .ok (.ireturn, 1) := by decide +kernel
theorem dL_law_1579 : decode cL_law 1579 = .ok (.iload 6, 2) := by decide +kernel
theorem dL_law_1581 : decode cL_law 1581 = .ok (.ifCond .ne 15, 3) := by decide +kernel
theorem dL_law_1584 : decode cL_law 1584 = .ok (.aload_n 3, 1) := by decide +kernel
theorem dL_law_1585 : decode cL_law 1585 = .ok (.iconst 0, 1) := by decide +kernel
theorem dL_law_1586 : decode cL_law 1586 = .ok (.laload, 1) := by decide +kernel
theorem dL_law_1587 : decode cL_law 1587 = .ok (.iload 7, 2) := by decide +kernel
theorem dL_law_1589 : decode cL_law 1589 = .ok (.i2l, 1) := by decide +kernel
theorem dL_law_1590 : decode cL_law 1590 = .ok (.lcmp, 1) := by decide +kernel
theorem dL_law_1591 : decode cL_law 1591 = .ok (.ifCond .eq 5, 3) := by decide +kernel
theorem dL_law_1594 : decode cL_law 1594 = .ok (.iconst 0, 1) := by decide +kernel
theorem dL_law_1595 : decode cL_law 1595 = .ok (.ireturn, 1) := by decide +kernel
theorem dL_law_1596 : decode cL_law 1596 = .ok (.goto 134, 3) := by decide +kernel
theorem dL_law_1599 : decode cL_law 1599 = .ok (.aload_n 1, 1) := by decide +kernel
theorem dL_law_1600 : decode cL_law 1600 = .ok (.aload 4, 2) := by decide +kernel
theorem dL_law_1602 : decode cL_law 1602 = .ok (.invokestatic 208, 3) := by decide +kernel
theorem dL_law_1605 : decode cL_law 1605 = .ok (.istore 6, 2) := by decide +kernel
theorem dL_law_1607 : decode cL_law 1607 = .ok (.aload_n 2, 1) := by decide +kernel
theorem dL_law_1608 : decode cL_law 1608 = .ok (.invokevirtual 211, 3) := by decide +kernel
theorem dL_law_1611 : decode cL_law 1611 = .ok (.fstore 7, 2) := by decide +kernel
theorem dL_law_1613 : decode cL_law 1613 = .ok (.aload_n 2, 1) := by decide +kernel
theorem dL_law_1614 : decode cL_law 1614 = .ok (.invokevirtual 117, 3) := by decide +kernel
theorem dL_law_1617 : decode cL_law 1617 = .ok (.iload 6, 2) := by decide +kernel
theorem dL_law_1619 : decode cL_law 1619 = .ok (.if_icmp .eq 5, 3) := by decide +kernel
theorem dL_law_1622 : decode cL_law 1622 = .ok (.iconst 0, 1) := by decide +kernel
theorem dL_law_1623 : decode cL_law 1623 = .ok (.ireturn, 1) := by decide +kernel
theorem dL_law_1624 : decode cL_law 1624 = .ok (.iload 6, 2) := by decide +kernel
theorem dL_law_1626 : decode cL_law 1626 = .ok (.ifCond .ne 36, 3) := by decide +kernel
theorem dL_law_1629 : decode cL_law 1629 = .ok (.aload 4, 2) := by decide +kernel
theorem dL_law_1631 : decode cL_law 1631 = .ok (.iconst 0, 1) := by decide +kernel
theorem dL_law_1632 : decode cL_law 1632 = .ok (.daload, 1) := by decide +kernel
theorem dL_law_1633 : decode cL_law 1633 = .ok (.fload 7, 2) := by decide +kernel
theorem dL_law_1635 : decode cL_law 1635 = .ok (.f2d, 1) := by decide +kernel
theorem dL_law_1636 : decode cL_law 1636 = .ok (.dcmp .l, 1) := by decide +kernel
theorem dL_law_1637 : decode cL_law 1637 = .ok (.ifCond .eq 25, 3) := by decide +kernel
theorem dL_law_1640 : decode cL_law 1640 = .ok (.aload 4, 2) := by decide +kernel
theorem dL_law_1642 : decode cL_law 1642 = .ok (.iconst 0, 1) := by decide +kernel
theorem dL_law_1643 : decode cL_law 1643 = .ok (.daload, 1) := by decide +kernel
theorem dL_law_1644 : decode cL_law 1644 = .ok (.aload 4, 2) := by decide +kernel
theorem dL_law_1646 : decode cL_law 1646 = .ok (.iconst 0, 1) := by decide +kernel
theorem dL_law_1647 : decode cL_law 1647 = .ok (.daload, 1) := by decide +kernel
theorem dL_law_1648 : decode cL_law 1648 = .ok (.dcmp .l, 1) := by decide +kernel
theorem dL_law_1649 : decode cL_law 1649 = .ok (.ifCond .eq 11, 3) := by decide +kernel
theorem dL_law_1652 : decode cL_law 1652 = .ok (.fload 7, 2) := by decide +kernel
theorem dL_law_1654 : decode cL_law 1654 = .ok (.fload 7, 2) := by decide +kernel
theorem dL_law_1656 : decode cL_law 1656 = .ok (.fcmp .l, 1) := by decide +kernel
theorem dL_law_1657 : decode cL_law 1657 = .ok (.ifCond .ne 5, 3) := by decide +kernel
theorem dL_law_1660 : decode cL_law 1660 = .ok (.iconst 0, 1) := by decide +kernel
theorem dL_law_1661 : decode cL_law 1661 = .ok (.ireturn, 1) := by decide +kernel
theorem dL_law_1662 : decode cL_law 1662 = .ok (.goto 68, 3) := by decide +kernel
theorem dL_law_1665 : decode cL_law 1665 = .ok (.aload_n 1, 1) := by decide +kernel
theorem dL_law_1666 : decode cL_law 1666 = .ok (.aload 4, 2) := by decide +kernel
theorem dL_law_1668 : decode cL_law 1668 = .ok (.invokestatic 212, 3) := by decide +kernel
theorem dL_law_1671 : decode cL_law 1671 = .ok (.istore 6, 2) := by decide +kernel
theorem dL_law_1673 : decode cL_law 1673 = .ok (.aload_n 2, 1) := by decide +kernel
theorem dL_law_1674 : decode cL_law 1674 = .ok (.invokevirtual 214, 3) := by decide +kernel
theorem dL_law_1677 : decode cL_law 1677 = .ok (.dstore 7, 2) := by decide +kernel
theorem dL_law_1679 : decode cL_law 1679 = .ok (.aload_n 2, 1) := by decide +kernel
theorem dL_law_1680 : decode cL_law 1680 = .ok (.invokevirtual 117, 3) := by decide +kernel
theorem dL_law_1683 : decode cL_law 1683 = .ok (.iload 6, 2) := by decide +kernel
theorem dL_law_1685 : decode cL_law 1685 = .ok (.if_icmp .eq 5, 3) := by decide +kernel
theorem dL_law_1688 : decode cL_law 1688 = .ok (.iconst 0, 1) := by decide +kernel
theorem dL_law_1689 : decode cL_law 1689 = .ok (.ireturn, 1) := by decide +kernel
theorem dL_law_1690 : decode cL_law 1690 = .ok (.iload 6, 2) := by decide +kernel
theorem dL_law_1692 : decode cL_law 1692 = .ok (.ifCond .ne 35, 3) := by decide +kernel
theorem dL_law_1695 : decode cL_law 1695 = .ok (.aload 4, 2) := by decide +kernel
theorem dL_law_1697 : decode cL_law 1697 = .ok (.iconst 0, 1) := by decide +kernel
theorem dL_law_1698 : decode cL_law 1698 = .ok (.daload, 1) := by decide +kernel
theorem dL_law_1699 : decode cL_law 1699 = .ok (.dload 7, 2) := by decide +kernel
theorem dL_law_1701 : decode cL_law 1701 = .ok (.dcmp .l, 1) := by decide +kernel
theorem dL_law_1702 : decode cL_law 1702 = .ok (.ifCond .eq 25, 3) := by decide +kernel
theorem dL_law_1705 : decode cL_law 1705 = .ok (.aload 4, 2) := by decide +kernel
theorem dL_law_1707 : decode cL_law 1707 = .ok (.iconst 0, 1) := by decide +kernel
theorem dL_law_1708 : decode cL_law 1708 = .ok (.daload, 1) := by decide +kernel
theorem dL_law_1709 : decode cL_law 1709 = .ok (.aload 4, 2) := by decide +kernel
theorem dL_law_1711 : decode cL_law 1711 = .ok (.iconst 0, 1) := by decide +kernel
theorem dL_law_1712 : decode cL_law 1712 = .ok (.daload, 1) := by decide +kernel
theorem dL_law_1713 : decode cL_law 1713 = .ok (.dcmp .l, 1) := by decide +kernel
theorem dL_law_1714 : decode cL_law 1714 = .ok (.ifCond .eq 11, 3) := by decide +kernel
theorem dL_law_1717 : decode cL_law 1717 = .ok (.dload 7, 2) := by decide +kernel
theorem dL_law_1719 : decode cL_law 1719 = .ok (.dload 7, 2) := by decide +kernel
theorem dL_law_1721 : decode cL_law 1721 = .ok (.dcmp .l, 1) := by decide +kernel
theorem dL_law_1722 : decode cL_law 1722 = .ok (.ifCond .ne 5, 3) := by decide +kernel
theorem dL_law_1725 : decode cL_law 1725 = .ok (.iconst 0, 1) := by decide +kernel
theorem dL_law_1726 : decode cL_law 1726 = .ok (.ireturn, 1) := by decide +kernel
theorem dL_law_1727 : decode cL_law 1727 = .ok (.goto 3, 3) := by decide +kernel
theorem dL_law_1730 : decode cL_law 1730 = .ok (.iinc 5 3, 3) := by decide +kernel
theorem dL_law_1733 : decode cL_law 1733 = .ok (.goto (-1705), 3) := by decide +kernel
theorem dL_law_1736 : decode cL_law 1736 = .ok (.iconst 1, 1) := by decide +kernel
theorem dL_law_1737 : decode cL_law 1737 = .ok (.ireturn, 1) := by decide +kernel
end
section
abbrev wSA (k : Nat → ClassId) (h : Nat) (a0 : Nat) (a1 : Nat) (a2 : Nat) (a3 : Nat) (a4 : Nat) (a5 : Nat) (a6 : Nat) (n : Int32) (farm : Nat → Int32) (amount : Nat → Int32) (mark : Nat → Int32) (place : Nat → Int32) (number : Nat → Int32) (paid : Nat → Int32) (blamed : Nat → Int32) : va_W := [(h, .inr (1, [.int n, .ref a0, .ref a1, .ref a2, .ref a3, .ref a4, .ref a5, .ref a6])), (a0, .inl (k 0, 100, .inl farm)), (a1, .inl (k 0, 100, .inl amount)), (a2, .inl (k 1, 100, .inl mark)), (a3, .inl (k 1, 100, .inl place)), (a4, .inl (k 0, 100, .inl number)), (a5, .inl (k 0, 100, .inl paid)), (a6, .inl (k 0, 100, .inl blamed))]
abbrev wFA (k : Nat → ClassId) (h : Nat) (a0 : Nat) (a1 : Nat) (a2 : Nat) (a3 : Nat) (rr : Nat → Nat) (nf : Int32) (rooms : Nat → Int32) (tanks : Nat → Int32) (cows : Nat → Int32) (bst : Nat → Nat → Int32) : va_W := [(h, .inr (0, [.int nf, .ref a0, .ref a1, .ref a2, .ref a3])), (a0, .inl (k 0, 6, .inl rooms)), (a1, .inl (k 0, 6, .inl tanks)), (a2, .inl (k 0, 6, .inl cows)), (a3, .inl (k 5, 6, .inr (.inr (.inr (.inr (fun i => if i < 6 then some (rr i) else none)))))), (rr 0, .inl (k 0, 5, .inl (bst 0))), (rr 1, .inl (k 0, 5, .inl (bst 1))), (rr 2, .inl (k 0, 5, .inl (bst 2))), (rr 3, .inl (k 0, 5, .inl (bst 3))), (rr 4, .inl (k 0, 5, .inl (bst 4))), (rr 5, .inl (k 0, 5, .inl (bst 5)))]
abbrev oMR (a : Nat → Nat) (today : Int32) (vc : Int32) (rounds : Int32) (und : Int32) (nb : Int32) : Nat × va_E := (a 0, .inr (2, [.int today, .ref (a 1), .int vc, .ref (a 6), .int rounds, .int und, .ref (a 7), .ref (a 8), .int nb]))
abbrev yMR (k : Nat → ClassId) (a : Nat → Nat) (vrooms : Nat → Int32) (vis : Nat → Int32) (n : Int32) (farm : Nat → Int32) (amount : Nat → Int32) (mark : Nat → Int32) (place : Nat → Int32) (number : Nat → Int32) (paid : Nat → Int32) (blamed : Nat → Int32) : va_W := [(a 6, .inl (k 0, 4, .inl vrooms)), (a 7, .inl (k 2, 6, .inl vis))] ++ wSA k (a 8) (a 9) (a 10) (a 11) (a 12) (a 13) (a 14) (a 15) n farm amount mark place number paid blamed
abbrev xMR (k : Nat → ClassId) (a : Nat → Nat) (rr : Nat → Nat) (today : Int32) (vc : Int32) (rounds : Int32) (und : Int32) (nb : Int32) (vrooms : Nat → Int32) (vis : Nat → Int32) (nf : Int32) (rooms : Nat → Int32) (tanks : Nat → Int32) (cows : Nat → Int32) (bst : Nat → Nat → Int32) : va_W := oMR a today vc rounds und nb :: (wFA k (a 1) (a 2) (a 3) (a 4) (a 5) rr nf rooms tanks cows bst ++ [(a 6, .inl (k 0, 4, .inl vrooms)), (a 7, .inl (k 2, 6, .inl vis))])
abbrev wMR (k : Nat → ClassId) (a : Nat → Nat) (rr : Nat → Nat) (today : Int32) (vc : Int32) (rounds : Int32) (und : Int32) (nb : Int32) (vrooms : Nat → Int32) (vis : Nat → Int32) (nf : Int32) (rooms : Nat → Int32) (tanks : Nat → Int32) (cows : Nat → Int32) (bst : Nat → Nat → Int32) (n : Int32) (farm : Nat → Int32) (amount : Nat → Int32) (mark : Nat → Int32) (place : Nat → Int32) (number : Nat → Int32) (paid : Nat → Int32) (blamed : Nat → Int32) : va_W := oMR a today vc rounds und nb :: (wFA k (a 1) (a 2) (a 3) (a 4) (a 5) rr nf rooms tanks cows bst ++ yMR k a vrooms vis n farm amount mark place number paid blamed)
abbrev wMO (k : Nat → ClassId) (a : Nat → Nat) (day : Int32) (rooms : Nat → Int32) (tanks : Nat → Int32) (bests : Nat → Int32) (cows : Nat → Int32) (nf : Int32) (vrooms : Nat → Int32) (inv : Nat → Int32) (vsh : Nat → Int32) (nv : Int32) (und : Int32) (vis : Nat → Int32) (rounds : Int32) (intk : Int32) (farm : Nat → Int32) (amount : Nat → Int32) (mark : Nat → Int32) (ways : Nat → Int32) (n : Int32) (nb : Int32) (thr : Int32) : va_W := [(a 0, .inr (3, [.int day, .ref (a 1), .ref (a 2), .ref (a 3), .ref (a 4), .int nf, .ref (a 5), .ref (a 6), .ref (a 7), .int nv, .int und, .ref (a 8), .int rounds, .int intk, .ref (a 9), .ref (a 10), .ref (a 11), .ref (a 12), .int n, .int nb, .int thr])), (a 1, .inl (k 0, 6, .inl rooms)), (a 2, .inl (k 0, 6, .inl tanks)), (a 3, .inl (k 0, 30, .inl bests)), (a 4, .inl (k 0, 6, .inl cows)), (a 5, .inl (k 0, 4, .inl vrooms)), (a 6, .inl (k 0, 4, .inl inv)), (a 7, .inl (k 0, 4, .inl vsh)), (a 8, .inl (k 2, 6, .inl vis)), (a 9, .inl (k 0, 100, .inl farm)), (a 10, .inl (k 0, 100, .inl amount)), (a 11, .inl (k 1, 100, .inl mark)), (a 12, .inl (k 0, 100, .inl ways))]
theorem wFA_row {k : Nat → ClassId} {h : Nat} {a0 : Nat} {a1 : Nat} {a2 : Nat} {a3 : Nat} {rr : Nat → Nat} {nf : Int32} {rooms : Nat → Int32} {tanks : Nat → Int32} {cows : Nat → Int32} {bst : Nat → Nat → Int32} {j : Nat} (hj : j < 6) : (wFA k h a0 a1 a2 a3 rr nf rooms tanks cows bst)[5 + j]? = some (rr j, .inl (k 0, 5, .inl (bst j))) := by
  rcases (show j = 0 ∨ j = 1 ∨ j = 2 ∨ j = 3 ∨ j = 4 ∨ j = 5 by omega) with rfl | rfl | rfl | rfl | rfl | rfl <;> rfl
theorem wFA_set {k : Nat → ClassId} {h : Nat} {a0 : Nat} {a1 : Nat} {a2 : Nat} {a3 : Nat} {rr : Nat → Nat} {nf : Int32} {rooms : Nat → Int32} {tanks : Nat → Int32} {cows : Nat → Int32} {bst : Nat → Nat → Int32} {j : Nat} (hj : j < 6) (r : Nat → Int32) : (wFA k h a0 a1 a2 a3 rr nf rooms tanks cows bst).set (5 + j) (rr j, .inl (k 0, 5, .inl r)) = wFA k h a0 a1 a2 a3 rr nf rooms tanks cows (fun i => if i = j then r else bst i) := by
  rcases (show j = 0 ∨ j = 1 ∨ j = 2 ∨ j = 3 ∨ j = 4 ∨ j = 5 by omega) with rfl | rfl | rfl | rfl | rfl | rfl <;> rfl
theorem nI_inc (n : Nat) : nI n + Int32.ofInt 1 = nI (n + 1) := nI_1 n
theorem nI_incN (n m : Nat) : nI n + nI m = nI (n + m) := nI_add n m
def kB (b : Bool) : Int32 := if b then 1 else 0
theorem kB_f {b : Bool} (h : kB b = 0) : b = false := by cases b; rfl; exact absurd h (by decide)
theorem kB_t {b : Bool} (h : ¬ kB b = 0) : b = true := by cases b; exact absurd rfl h; rfl
theorem kB_z (b : Bool) : narrow .boolean (.int (kB b)) = .int (kB b) := by cases b <;> rfl
theorem kB_n (b : Bool) : vp_nar .boolean (kB b) = kB b := by cases b <;> rfl
def sI (p : Nat → Bool) (f : Nat → Int32) : Nat → Int32 | 0 => 0 | n + 1 => sI p f n + (if p n then f n else 0)
theorem sI_t {p : Nat → Bool} {f : Nat → Int32} {i : Nat} (h : p i = true) : sI p f i + f i = sI p f (i + 1) := by simp [sI, h]
theorem sI_f {p : Nat → Bool} {f : Nat → Int32} {i : Nat} (h : p i = false) : sI p f i = sI p f (i + 1) := by simp [sI, h]
def sL (p : Nat → Bool) (f : Nat → Int64) : Nat → Int64 | 0 => 0 | n + 1 => sL p f n + (if p n then f n else 0)
theorem sL_t {p : Nat → Bool} {f : Nat → Int64} {i : Nat} (h : p i = true) : sL p f i + f i = sL p f (i + 1) := by simp [sL, h]
theorem sL_f {p : Nat → Bool} {f : Nat → Int64} {i : Nat} (h : p i = false) : sL p f i = sL p f (i + 1) := by simp [sL, h]
def aB (p : Nat → Bool) : Nat → Bool | 0 => true | n + 1 => aB p n && p n
theorem aB_t {p : Nat → Bool} {i : Nat} (h : aB p i = true) (h2 : p i = true) : aB p (i + 1) = true := by simp [aB, h, h2]
theorem aB_f {p : Nat → Bool} {i : Nat} (h : p i = false) : ∀ {n : Nat}, i < n → aB p n = false
  | 0, q => absurd q (Nat.not_lt_zero _)
  | n + 1, q => by
    rcases Nat.lt_or_ge i n with h1 | h1
    · simp [aB, aB_f h h1]
    · rw [show n = i by omega]
      simp [aB, h]
theorem aB_iff {p : Nat → Bool} : ∀ {n : Nat}, aB p n = true ↔ ∀ i, i < n → p i = true
  | 0 => ⟨fun _ i h => absurd h (Nat.not_lt_zero _), fun _ => rfl⟩
  | n + 1 => by
    rw [aB, Bool.and_eq_true, aB_iff]
    refine ⟨fun h i hi => ?_, fun h => ⟨fun i hi => h i (by omega), h n (by omega)⟩⟩
    rcases Nat.lt_or_ge i n with h1 | h1
    · exact h.1 i h1
    · rw [show i = n by omega]
      exact h.2
def wr (p : Nat → Bool) (v f : Nat → Int32) (i : Nat) : Nat → Int32 := fun j => if j < i ∧ p j = true then v j else f j
theorem wr_0 (p : Nat → Bool) (v f : Nat → Int32) : wr p v f 0 = f := by funext j; simp [wr]
theorem wr_at (p : Nat → Bool) (v f : Nat → Int32) (i : Nat) : wr p v f i i = f i := by simp [wr]
theorem wr_t {p : Nat → Bool} {v f : Nat → Int32} {i : Nat} (h : p i = true) : upd (wr p v f i) i (v i) = wr p v f (i + 1) := by
  funext j
  by_cases e : j = i
  · subst e
    simp [upd, wr, h]
  · simp only [upd, wr, if_neg e]
    by_cases h2 : j < i
    · simp [h2, Nat.lt_succ_of_lt h2]
    · simp [h2, show ¬ j < i + 1 by omega]
theorem wr_f {p : Nat → Bool} {v f : Nat → Int32} {i : Nat} (h : p i = false) : wr p v f i = wr p v f (i + 1) := by
  funext j
  simp only [wr]
  by_cases e : j = i
  · subst e
    simp [h]
  · by_cases h2 : j < i
    · simp [h2, Nat.lt_succ_of_lt h2]
    · simp [h2, show ¬ j < i + 1 by omega]
def cIn (place number : Nat → Int32) (wh wi : Int32) (j : Nat) : Bool := decide (place j = wh) && decide (number j = wi)
def cSp (mark place number : Nat → Int32) (b : Int32) (j : Nat) : Bool := decide (mark j = 120) && cIn place number 98 b j
def cUn (mark place number : Nat → Int32) (b : Int32) (j : Nat) : Bool := !(decide (mark j = 45) && cIn place number 98 b j)
def absI (t : Int32) : Int32 := if 0 ≤ t then t else 0 - t
def rem10 (d : Int32) : Int32 := d - d / 10 * 10
def milkC (b d : Int32) : Int32 := if 5 < b - absI (5 - rem10 d) then b - absI (5 - rem10 d) else 5
def milkF (row : Nat → Int32) (d : Int32) (c : Nat) : Int32 := sI (fun _ => true) (fun i => milkC (row i) d) c
def minI (x y : Int32) : Int32 := if y < x then y else x
def kpt (rooms tanks : Nat → Int32) (bst : Nat → Nat → Int32) (cw : Nat → Nat) (d : Int32) (j : Nat) : Int32 := minI (milkF (bst j) d (cw j)) (rooms j - tanks j)
def tkF (rooms tanks : Nat → Int32) (bst : Nat → Nat → Int32) (cw : Nat → Nat) (d : Int32) (nf : Nat) : Nat → Int32 := wr (fun _ => true) (fun j => tanks j + kpt rooms tanks bst cw d j) tanks nf
def poF (rooms tanks : Nat → Int32) (bst : Nat → Nat → Int32) (cw : Nat → Nat) (d : Int32) (nf : Nat) : Int32 := sI (fun _ => true) (fun j => milkF (bst j) d (cw j) - kpt rooms tanks bst cw d j) nf
def tkD (rooms tanks : Nat → Int32) (bst : Nat → Nat → Int32) (cw : Nat → Nat) (dy nf : Nat) : Nat → Nat → Int32 | 0 => tanks | t + 1 => tkF rooms (tkD rooms tanks bst cw dy nf t) bst cw (nI (dy + t + 1)) nf
def poD (rooms tanks : Nat → Int32) (bst : Nat → Nat → Int32) (cw : Nat → Nat) (dy nf : Nat) : Nat → Int32 | 0 => 0 | t + 1 => poD rooms tanks bst cw dy nf t + poF rooms (tkD rooms tanks bst cw dy nf t) bst cw (nI (dy + t + 1)) nf
def cents (g : Int32) : Int32 := if g = 97 then 40 else if g = 98 then 34 else if g = 99 then 25 else 0
def sh (p : Nat → Bool) (idx : Int32) : Nat → Int32 | 0 => -1 | n + 1 => if sh p idx n = -1 then (if p n = true ∧ sI p (fun _ => 1) n = idx then nI n else -1) else sh p idx n
theorem sh_n {p : Nat → Bool} {idx : Int32} {i : Nat} (h : sh p idx i = -1) (h2 : ¬ (p i = true ∧ sI p (fun _ => 1) i = idx)) : sh p idx (i + 1) = -1 := by rw [sh, if_pos h, if_neg h2]
theorem nI_neg1 {n : Nat} (h : n < 2 ^ 31) : ¬ nI n = -1 := fun q => nI_pos h (by rw [q]; decide)
theorem sh_y {p : Nat → Bool} {idx : Int32} {i : Nat} (hi : i < 2 ^ 31) (h : sh p idx i = -1) (h1 : p i = true) (h2 : sI p (fun _ => 1) i = idx) : ∀ d : Nat, sh p idx (i + 1 + d) = nI i
  | 0 => by rw [Nat.add_zero, sh, if_pos h, if_pos ⟨h1, h2⟩]
  | d + 1 => by rw [← Nat.add_assoc, sh, sh_y hi h h1 h2 d, if_neg (nI_neg1 hi)]
theorem sh_lt {p : Nat → Bool} {idx : Int32} {i n : Nat} (hi : i < 2 ^ 31) (h : sh p idx i = -1) (h1 : p i = true) (h2 : sI p (fun _ => 1) i = idx) (hn : i < n) : sh p idx n = nI i := by
  have := sh_y hi h h1 h2 (n - (i + 1))
  rwa [show i + 1 + (n - (i + 1)) = n by omega] at this
def lf (p : Nat → Bool) (L0 : Int32) : Nat → Int32 | 0 => L0 | i + 1 => if p i = true ∧ 0 < lf p L0 i then lf p L0 i + (-1) else lf p L0 i
theorem lf_stop {p : Nat → Bool} {L0 : Int32} {i : Nat} (h : ¬ 0 < lf p L0 i) : ∀ d : Nat, lf p L0 (i + d) = lf p L0 i
  | 0 => rfl
  | d + 1 => by rw [← Nat.add_assoc, lf, lf_stop h d, if_neg (fun q => h q.2)]
def pl (p : Nat → Bool) (L0 : Int32) (j : Nat) : Bool := p j && decide (0 < lf p L0 j)
theorem wr_stop {p : Nat → Bool} {L0 : Int32} {v f : Nat → Int32} {i : Nat} (h : ¬ 0 < lf p L0 i) {n : Nat} (hn : i ≤ n) : wr (pl p L0) v f i = wr (pl p L0) v f n := by
  funext j
  simp only [wr]
  by_cases h1 : j < i
  · simp [h1, Nat.lt_of_lt_of_le h1 hn]
  · have hz : pl p L0 j = false := by
      have := lf_stop h (j - i)
      rw [show i + (j - i) = j by omega] at this
      simp [pl, this, h]
    simp [hz]
def spl (mark place number amount : Nat → Int32) (b : Int32) (n : Nat) : Int32 := sI (cSp mark place number b) amount n
def valB (mark place number amount : Nat → Int32) (b : Int32) (n : Nat) : Int32 := sI (cIn place number 98 b) (fun j => amount j * cents (mark j)) n
def lossB (mark place number amount : Nat → Int32) (b : Int32) (n : Nat) : Int32 := if 0 < spl mark place number amount b n then valB mark place number amount b n else 0
def payB (mark place number amount : Nat → Int32) (b : Int32) (n : Nat) : Int32 := if 0 < spl mark place number amount b n then 0 else valB mark place number amount b n
theorem i32_sss (a b c : Int32) : a - b - c = a - (b + c) := by rw [Int32.sub_eq_add_neg, Int32.sub_eq_add_neg, Int32.sub_eq_add_neg, Int32.neg_add, Int32.sub_eq_add_neg, Int32.add_assoc]
def grB (mark place number : Nat → Int32) (b : Int32) (n : Nat) : Bool := aB (cUn mark place number b) n
def bl1 (mark place number amount blamed : Nat → Int32) (b sp lost : Int32) (n : Nat) : Nat → Int32 := wr (cSp mark place number b) (fun j => lost * amount j / sp) blamed n
def lft (mark place number amount : Nat → Int32) (b sp lost : Int32) (n : Nat) : Int32 := lost - sI (cSp mark place number b) (fun j => lost * amount j / sp) n
def bl2 (mark place number amount blamed : Nat → Int32) (b sp : Int32) (n : Nat) : Nat → Int32 := wr (pl (cSp mark place number b) (lft mark place number amount b sp (lossB mark place number amount b n) n)) (fun j => bl1 mark place number amount blamed b sp (lossB mark place number amount b n) n j + 1) (bl1 mark place number amount blamed b sp (lossB mark place number amount b n) n) n
def stP (mark place number amount paid : Nat → Int32) (b : Int32) (n : Nat) : Nat → Int32 := if grB mark place number b n = true ∧ ¬ 0 < spl mark place number amount b n then wr (cIn place number 98 b) (fun j => amount j * cents (mark j)) paid n else paid
def stB (mark place number amount blamed : Nat → Int32) (b : Int32) (n : Nat) : Nat → Int32 := if grB mark place number b n = true ∧ 0 < spl mark place number amount b n then bl2 mark place number amount blamed b (spl mark place number amount b n) n else blamed
theorem cf_X0_init : kCI yX0_init cX0_init 1 0 := ⟨q_29, q_28, q_2, rfl, ⟨by decide, by decide⟩, by decide +kernel⟩
theorem cf_X0_add : kCF yX0_add cX0_add 2 (some .int) 1 := ⟨q_244, q_243, qs_3, q_2, ⟨by decide, by decide⟩, by decide +kernel⟩
theorem cf_X0_addCowTo : kCF yX0_addCowTo cX0_addCowTo 3 (some .int) 2 := ⟨q_298, q_297, qs_5, q_2, ⟨by decide, by decide⟩, by decide +kernel⟩
theorem cf_X0_milkOn : kCF yX0_milkOn cX0_milkOn 5 (some .int) 2 := ⟨q_310, q_309, qs_6, q_2, ⟨by decide, by decide⟩, by decide +kernel⟩
theorem cf_X0_milkOfCow : kCS yX0_milkOfCow cX0_milkOfCow 2 (some .int) 2 := ⟨q_313, q_312, q_2, ⟨by decide, by decide⟩, by decide +kernel⟩
theorem cf_X0_milkAll : kCF yX0_milkAll cX0_milkAll 6 (some .int) 1 := ⟨q_338, q_337, qs_7, q_2, ⟨by decide, by decide⟩, by decide +kernel⟩
theorem cf_X0_draw : kCF yX0_draw cX0_draw 4 (some .int) 2 := ⟨q_374, q_373, qs_8, q_2, ⟨by decide, by decide⟩, by decide +kernel⟩
theorem cf_X1_init : kCI yX1_init cX1_init 1 0 := ⟨q_57, q_56, q_3, rfl, ⟨by decide, by decide⟩, by decide +kernel⟩
theorem cf_X1_add : kCF yX1_add cX1_add 3 none 2 := ⟨q_378, q_377, qs_9, q_3, ⟨by decide, by decide⟩, by decide +kernel⟩
theorem cf_X1_isIn : kCF yX1_isIn cX1_isIn 4 (some .boolean) 3 := ⟨q_135, q_134, qs_1, q_3, ⟨by decide, by decide⟩, by decide +kernel⟩
theorem cf_X1_move : kCF yX1_move cX1_move 6 none 4 := ⟨q_424, q_423, qs_13, q_3, ⟨by decide, by decide⟩, by decide +kernel⟩
theorem cf_X1_countIn : kCF yX1_countIn cX1_countIn 5 (some .int) 2 := ⟨q_419, q_418, qs_12, q_3, ⟨by decide, by decide⟩, by decide +kernel⟩
theorem cf_X1_litresIn : kCF yX1_litresIn cX1_litresIn 5 (some .int) 2 := ⟨q_131, q_130, qs_0, q_3, ⟨by decide, by decide⟩, by decide +kernel⟩
theorem cf_X1_allLitres : kCF yX1_allLitres cX1_allLitres 3 (some .int) 0 := ⟨q_658, q_657, qs_33, q_3, ⟨by decide, by decide⟩, by decide +kernel⟩
theorem cf_X1_ungraded : kCF yX1_ungraded cX1_ungraded 3 (some .int) 0 := ⟨q_536, q_535, qs_25, q_3, ⟨by decide, by decide⟩, by decide +kernel⟩
theorem cf_X1_shareAt : kCF yX1_shareAt cX1_shareAt 5 (some .int) 2 := ⟨q_568, q_567, qs_27, q_3, ⟨by decide, by decide⟩, by decide +kernel⟩
theorem cf_X1_isGraded : kCF yX1_isGraded cX1_isGraded 3 (some .boolean) 1 := ⟨q_469, q_468, qs_15, q_3, ⟨by decide, by decide⟩, by decide +kernel⟩
theorem cf_X1_isSpoilt : kCF yX1_isSpoilt cX1_isSpoilt 2 (some .boolean) 1 := ⟨q_489, q_488, qs_20, q_3, ⟨by decide, by decide⟩, by decide +kernel⟩
theorem cf_X1_isSpoiltIn : kCF yX1_isSpoiltIn cX1_isSpoiltIn 3 (some .boolean) 2 := ⟨q_477, q_476, qs_17, q_3, ⟨by decide, by decide⟩, by decide +kernel⟩
theorem cf_X1_spoiltLitres : kCF yX1_spoiltLitres cX1_spoiltLitres 4 (some .int) 1 := ⟨q_473, q_472, qs_16, q_3, ⟨by decide, by decide⟩, by decide +kernel⟩
theorem cf_X1_centsALitre : kCS yX1_centsALitre cX1_centsALitre 1 (some .int) 1 := ⟨q_500, q_499, q_3, ⟨by decide, by decide⟩, by decide +kernel⟩
theorem cf_X1_valueOfSample : kCF yX1_valueOfSample cX1_valueOfSample 2 (some .int) 1 := ⟨q_497, q_496, qs_22, q_3, ⟨by decide, by decide⟩, by decide +kernel⟩
theorem cf_X1_valueOf : kCF yX1_valueOf cX1_valueOf 4 (some .int) 1 := ⟨q_493, q_492, qs_21, q_3, ⟨by decide, by decide⟩, by decide +kernel⟩
theorem cf_X1_payOfAll : kCF yX1_payOfAll cX1_payOfAll 2 (some .int) 1 := ⟨q_585, q_584, qs_29, q_3, ⟨by decide, by decide⟩, by decide +kernel⟩
theorem cf_X1_lossOf : kCF yX1_lossOf cX1_lossOf 2 (some .int) 1 := ⟨q_485, q_484, qs_19, q_3, ⟨by decide, by decide⟩, by decide +kernel⟩
theorem cf_X1_settle : kCF yX1_settle cX1_settle 3 none 1 := ⟨q_465, q_464, qs_14, q_3, ⟨by decide, by decide⟩, by decide +kernel⟩
theorem cf_X1_settlePay : kCF yX1_settlePay cX1_settlePay 3 none 1 := ⟨q_504, q_503, qs_23, q_3, ⟨by decide, by decide⟩, by decide +kernel⟩
theorem cf_X1_settleBlame : kCF yX1_settleBlame cX1_settleBlame 6 none 2 := ⟨q_481, q_480, qs_18, q_3, ⟨by decide, by decide⟩, by decide +kernel⟩
theorem cf_X1_paidTo : kCF yX1_paidTo cX1_paidTo 5 (some .int) 2 := ⟨q_604, q_603, qs_30, q_3, ⟨by decide, by decide⟩, by decide +kernel⟩
theorem cf_X1_blamedOn : kCF yX1_blamedOn cX1_blamedOn 5 (some .int) 2 := ⟨q_615, q_614, qs_31, q_3, ⟨by decide, by decide⟩, by decide +kernel⟩
theorem cf_X1_balanceOf : kCF yX1_balanceOf cX1_balanceOf 5 (some .long) 1 := ⟨q_626, q_625, qs_32, q_3, ⟨by decide, by decide⟩, by decide +kernel⟩
theorem cf_X2_init : kCI yX2_init cX2_init 1 0 := ⟨q_21, q_20, q_1, rfl, ⟨by decide, by decide⟩, by decide +kernel⟩
theorem cf_X2_addFarm : kCF yX2_addFarm cX2_addFarm 2 (some .int) 1 := ⟨q_152, q_150, q_151, q_1, ⟨by decide, by decide⟩, by decide +kernel⟩
theorem cf_X2_addCow : kCF yX2_addCow cX2_addCow 3 (some .int) 2 := ⟨q_275, q_273, q_274, q_1, ⟨by decide, by decide⟩, by decide +kernel⟩
theorem cf_X2_milkOf : kCF yX2_milkOf cX2_milkOf 3 (some .int) 2 := ⟨q_305, q_303, q_304, q_1, ⟨by decide, by decide⟩, by decide +kernel⟩
theorem cf_X2_inTank : kCF yX2_inTank cX2_inTank 2 (some .int) 1 := ⟨q_326, q_324, q_325, q_1, ⟨by decide, by decide⟩, by decide +kernel⟩
theorem cf_X2_pass : kCF yX2_pass cX2_pass 4 (some .int) 1 := ⟨q_333, q_331, q_332, q_1, ⟨by decide, by decide⟩, by decide +kernel⟩
theorem cf_X2_day : kCF yX2_day cX2_day 1 (some .int) 0 := ⟨q_123, q_121, q_122, q_1, ⟨by decide, by decide⟩, by decide +kernel⟩
theorem cf_X2_addVat : kCF yX2_addVat cX2_addVat 2 (some .int) 1 := ⟨q_349, q_347, q_348, q_1, ⟨by decide, by decide⟩, by decide +kernel⟩
theorem cf_X2_beginRound : kCF yX2_beginRound cX2_beginRound 2 (some .int) 0 := ⟨q_358, q_356, q_357, q_1, ⟨by decide, by decide⟩, by decide +kernel⟩
theorem cf_X2_visit : kCF yX2_visit cX2_visit 3 (some .int) 1 := ⟨q_366, q_364, q_365, q_1, ⟨by decide, by decide⟩, by decide +kernel⟩
theorem cf_X2_endRound : kCF yX2_endRound cX2_endRound 2 (some .int) 1 := ⟨q_386, q_384, q_385, q_1, ⟨by decide, by decide⟩, by decide +kernel⟩
theorem cf_X2_inTanker : kCF yX2_inTanker cX2_inTanker 1 (some .int) 0 := ⟨q_127, q_125, q_126, q_1, ⟨by decide, by decide⟩, by decide +kernel⟩
theorem cf_X2_inVat : kCF yX2_inVat cX2_inVat 2 (some .int) 1 := ⟨q_399, q_397, q_398, q_1, ⟨by decide, by decide⟩, by decide +kernel⟩
theorem cf_X2_bestVat : kCF yX2_bestVat cX2_bestVat 6 (some .int) 0 := ⟨q_436, q_434, q_435, q_1, ⟨by decide, by decide⟩, by decide +kernel⟩
theorem cf_X2_close : kCF yX2_close cX2_close 3 (some .int) 1 := ⟨q_459, q_457, q_458, q_1, ⟨by decide, by decide⟩, by decide +kernel⟩
theorem cf_X2_samples : kCF yX2_samples cX2_samples 1 (some .int) 0 := ⟨q_139, q_137, q_138, q_1, ⟨by decide, by decide⟩, by decide +kernel⟩
theorem cf_X2_farmOf : kCF yX2_farmOf cX2_farmOf 2 (some .int) 1 := ⟨q_511, q_509, q_510, q_1, ⟨by decide, by decide⟩, by decide +kernel⟩
theorem cf_X2_litres : kCF yX2_litres cX2_litres 2 (some .int) 1 := ⟨q_523, q_521, q_522, q_1, ⟨by decide, by decide⟩, by decide +kernel⟩
theorem cf_X2_grade : kCF yX2_grade cX2_grade 3 (some .int) 2 := ⟨q_530, q_528, q_529, q_1, ⟨by decide, by decide⟩, by decide +kernel⟩
theorem cf_X2_gradeOf : kCF yX2_gradeOf cX2_gradeOf 2 (some .char) 1 := ⟨q_543, q_541, q_542, q_1, ⟨by decide, by decide⟩, by decide +kernel⟩
theorem cf_X2_batches : kCF yX2_batches cX2_batches 1 (some .int) 0 := ⟨q_143, q_141, q_142, q_1, ⟨by decide, by decide⟩, by decide +kernel⟩
theorem cf_X2_stateOf : kCF yX2_stateOf cX2_stateOf 2 (some .char) 1 := ⟨q_550, q_548, q_549, q_1, ⟨by decide, by decide⟩, by decide +kernel⟩
theorem cf_X2_share : kCF yX2_share cX2_share 4 (some .int) 2 := ⟨q_564, q_562, q_563, q_1, ⟨by decide, by decide⟩, by decide +kernel⟩
theorem cf_X2_worth : kCF yX2_worth cX2_worth 2 (some .int) 1 := ⟨q_576, q_574, q_575, q_1, ⟨by decide, by decide⟩, by decide +kernel⟩
theorem cf_X2_loss : kCF yX2_loss cX2_loss 2 (some .int) 1 := ⟨q_592, q_590, q_591, q_1, ⟨by decide, by decide⟩, by decide +kernel⟩
theorem cf_X2_pay : kCF yX2_pay cX2_pay 5 (some .long) 1 := ⟨q_600, q_598, q_599, q_1, ⟨by decide, by decide⟩, by decide +kernel⟩
theorem cf_X2_blame : kCF yX2_blame cX2_blame 5 (some .long) 1 := ⟨q_611, q_609, q_610, q_1, ⟨by decide, by decide⟩, by decide +kernel⟩
theorem cf_X2_balanceBySamples : kCF yX2_balanceBySamples cX2_balanceBySamples 2 (some .long) 1 := ⟨q_622, q_620, q_621, q_1, ⟨by decide, by decide⟩, by decide +kernel⟩
theorem cf_X2_wayOf : kCF yX2_wayOf cX2_wayOf 2 (some .char) 1 := ⟨q_633, q_631, q_632, q_1, ⟨by decide, by decide⟩, by decide +kernel⟩
theorem cf_X2_spoiltShare : kCF yX2_spoiltShare cX2_spoiltShare 4 (some .float) 0 := ⟨q_654, q_652, q_653, q_1, ⟨by decide, by decide⟩, by decide +kernel⟩
theorem cf_X2_meanPay : kCF yX2_meanPay cX2_meanPay 6 (some .double) 0 := ⟨q_668, q_666, q_667, q_1, ⟨by decide, by decide⟩, by decide +kernel⟩
theorem cf_X2_freeRoom : kCF yX2_freeRoom cX2_freeRoom 2 (some .int) 1 := ⟨q_395, q_394, qs_11, q_1, ⟨by decide, by decide⟩, by decide +kernel⟩
theorem cf_X2_requireFarm : kCF yX2_requireFarm cX2_requireFarm 2 none 1 := ⟨q_279, q_278, qs_4, q_1, ⟨by decide, by decide⟩, by decide +kernel⟩
theorem cf_X2_requireVat : kCF yX2_requireVat cX2_requireVat 2 none 1 := ⟨q_390, q_389, qs_10, q_1, ⟨by decide, by decide⟩, by decide +kernel⟩
theorem cf_X2_requireSample : kCF yX2_requireSample cX2_requireSample 2 none 1 := ⟨q_515, q_514, qs_24, q_1, ⟨by decide, by decide⟩, by decide +kernel⟩
theorem cf_X2_requireBatch : kCF yX2_requireBatch cX2_requireBatch 2 none 1 := ⟨q_554, q_553, qs_26, q_1, ⟨by decide, by decide⟩, by decide +kernel⟩
theorem cf_X2_requireGradedBatch : kCF yX2_requireGradedBatch cX2_requireGradedBatch 2 none 1 := ⟨q_580, q_579, qs_28, q_1, ⟨by decide, by decide⟩, by decide +kernel⟩
theorem cf_X3_init : kCI yX3_init cX3_init 1 0 := ⟨q_674, q_673, q_4, rfl, ⟨by decide, by decide⟩, by decide +kernel⟩
theorem cf_X3_thrown : kCF yX3_thrown cX3_thrown 1 (some .int) 0 := ⟨q_743, q_741, q_742, q_4, ⟨by decide, by decide⟩, by decide +kernel⟩
theorem cf_X3_in : kCS yX3_in cX3_in 6 (some .boolean) 3 := ⟨q_752, q_751, q_4, ⟨by decide, by decide⟩, by decide +kernel⟩
theorem cf_X3_addFarm : kCF yX3_addFarm cX3_addFarm 2 (some .int) 1 := ⟨q_747, q_745, q_746, q_4, ⟨by decide, by decide⟩, by decide +kernel⟩
theorem cf_X3_isFarm : kCF yX3_isFarm cX3_isFarm 2 (some .boolean) 1 := ⟨q_760, q_759, qs_34, q_4, ⟨by decide, by decide⟩, by decide +kernel⟩
theorem cf_X3_addCow : kCF yX3_addCow cX3_addCow 3 (some .int) 2 := ⟨q_756, q_754, q_755, q_4, ⟨by decide, by decide⟩, by decide +kernel⟩
theorem cf_X3_gives : kCS yX3_gives cX3_gives 4 (some .int) 2 := ⟨q_770, q_769, q_4, ⟨by decide, by decide⟩, by decide +kernel⟩
theorem cf_X3_milkOf : kCF yX3_milkOf cX3_milkOf 5 (some .int) 2 := ⟨q_766, q_764, q_765, q_4, ⟨by decide, by decide⟩, by decide +kernel⟩
theorem cf_X3_inTank : kCF yX3_inTank cX3_inTank 2 (some .int) 1 := ⟨q_774, q_772, q_773, q_4, ⟨by decide, by decide⟩, by decide +kernel⟩
theorem cf_X3_pass : kCF yX3_pass cX3_pass 9 (some .int) 1 := ⟨q_778, q_776, q_777, q_4, ⟨by decide, by decide⟩, by decide +kernel⟩
theorem cf_X3_day : kCF yX3_day cX3_day 1 (some .int) 0 := ⟨q_782, q_780, q_781, q_4, ⟨by decide, by decide⟩, by decide +kernel⟩
theorem cf_X3_addVat : kCF yX3_addVat cX3_addVat 2 (some .int) 1 := ⟨q_786, q_784, q_785, q_4, ⟨by decide, by decide⟩, by decide +kernel⟩
theorem cf_X3_beginRound : kCF yX3_beginRound cX3_beginRound 2 (some .int) 0 := ⟨q_792, q_790, q_791, q_4, ⟨by decide, by decide⟩, by decide +kernel⟩
theorem cf_X3_visit : kCF yX3_visit cX3_visit 4 (some .int) 1 := ⟨q_796, q_794, q_795, q_4, ⟨by decide, by decide⟩, by decide +kernel⟩
theorem cf_X3_isVat : kCF yX3_isVat cX3_isVat 2 (some .boolean) 1 := ⟨q_804, q_803, qs_35, q_4, ⟨by decide, by decide⟩, by decide +kernel⟩
theorem cf_X3_onWay : kCF yX3_onWay cX3_onWay 4 (some .int) 1 := ⟨q_808, q_807, qs_36, q_4, ⟨by decide, by decide⟩, by decide +kernel⟩
theorem cf_X3_endRound : kCF yX3_endRound cX3_endRound 4 (some .int) 1 := ⟨q_800, q_798, q_799, q_4, ⟨by decide, by decide⟩, by decide +kernel⟩
theorem cf_X3_inTanker : kCF yX3_inTanker cX3_inTanker 1 (some .int) 0 := ⟨q_812, q_810, q_811, q_4, ⟨by decide, by decide⟩, by decide +kernel⟩
theorem cf_X3_inVat : kCF yX3_inVat cX3_inVat 2 (some .int) 1 := ⟨q_816, q_814, q_815, q_4, ⟨by decide, by decide⟩, by decide +kernel⟩
theorem cf_X3_bestVat : kCF yX3_bestVat cX3_bestVat 5 (some .int) 0 := ⟨q_820, q_818, q_819, q_4, ⟨by decide, by decide⟩, by decide +kernel⟩
theorem cf_X3_close : kCF yX3_close cX3_close 3 (some .int) 1 := ⟨q_824, q_822, q_823, q_4, ⟨by decide, by decide⟩, by decide +kernel⟩
theorem cf_X3_samples : kCF yX3_samples cX3_samples 1 (some .int) 0 := ⟨q_828, q_826, q_827, q_4, ⟨by decide, by decide⟩, by decide +kernel⟩
theorem cf_X3_isSample : kCF yX3_isSample cX3_isSample 2 (some .boolean) 1 := ⟨q_836, q_835, qs_37, q_4, ⟨by decide, by decide⟩, by decide +kernel⟩
theorem cf_X3_farmOf : kCF yX3_farmOf cX3_farmOf 2 (some .int) 1 := ⟨q_832, q_830, q_831, q_4, ⟨by decide, by decide⟩, by decide +kernel⟩
theorem cf_X3_litres : kCF yX3_litres cX3_litres 2 (some .int) 1 := ⟨q_840, q_838, q_839, q_4, ⟨by decide, by decide⟩, by decide +kernel⟩
theorem cf_X3_grade : kCF yX3_grade cX3_grade 6 (some .int) 2 := ⟨q_844, q_842, q_843, q_4, ⟨by decide, by decide⟩, by decide +kernel⟩
theorem cf_X3_gradeOf : kCF yX3_gradeOf cX3_gradeOf 2 (some .char) 1 := ⟨q_848, q_846, q_847, q_4, ⟨by decide, by decide⟩, by decide +kernel⟩
theorem cf_X3_batches : kCF yX3_batches cX3_batches 1 (some .int) 0 := ⟨q_852, q_850, q_851, q_4, ⟨by decide, by decide⟩, by decide +kernel⟩
theorem cf_X3_has : kCF yX3_has cX3_has 5 (some .boolean) 2 := ⟨q_864, q_863, qs_39, q_4, ⟨by decide, by decide⟩, by decide +kernel⟩
theorem cf_X3_isBatch : kCF yX3_isBatch cX3_isBatch 2 (some .boolean) 1 := ⟨q_860, q_859, qs_38, q_4, ⟨by decide, by decide⟩, by decide +kernel⟩
theorem cf_X3_stateOf : kCF yX3_stateOf cX3_stateOf 2 (some .char) 1 := ⟨q_856, q_854, q_855, q_4, ⟨by decide, by decide⟩, by decide +kernel⟩
theorem cf_X3_share : kCF yX3_share cX3_share 5 (some .int) 2 := ⟨q_868, q_866, q_867, q_4, ⟨by decide, by decide⟩, by decide +kernel⟩
theorem cf_X3_worthOf : kCF yX3_worthOf cX3_worthOf 3 (some .int) 1 := ⟨q_884, q_883, qs_42, q_4, ⟨by decide, by decide⟩, by decide +kernel⟩
theorem cf_X3_payOf : kCF yX3_payOf cX3_payOf 2 (some .int) 1 := ⟨q_880, q_879, qs_41, q_4, ⟨by decide, by decide⟩, by decide +kernel⟩
theorem cf_X3_lossOf : kCF yX3_lossOf cX3_lossOf 4 (some .int) 1 := ⟨q_892, q_891, qs_43, q_4, ⟨by decide, by decide⟩, by decide +kernel⟩
theorem cf_X3_blameOf : kCF yX3_blameOf cX3_blameOf 9 (some .int) 1 := ⟨q_909, q_908, qs_45, q_4, ⟨by decide, by decide⟩, by decide +kernel⟩
theorem cf_X3_isGraded : kCF yX3_isGraded cX3_isGraded 2 (some .boolean) 1 := ⟨q_876, q_875, qs_40, q_4, ⟨by decide, by decide⟩, by decide +kernel⟩
theorem cf_X3_worth : kCF yX3_worth cX3_worth 4 (some .int) 1 := ⟨q_872, q_870, q_871, q_4, ⟨by decide, by decide⟩, by decide +kernel⟩
theorem cf_X3_loss : kCF yX3_loss cX3_loss 2 (some .int) 1 := ⟨q_888, q_886, q_887, q_4, ⟨by decide, by decide⟩, by decide +kernel⟩
theorem cf_X3_counts : kCF yX3_counts cX3_counts 3 (some .boolean) 2 := ⟨q_901, q_900, qs_44, q_4, ⟨by decide, by decide⟩, by decide +kernel⟩
theorem cf_X3_pay : kCF yX3_pay cX3_pay 5 (some .long) 1 := ⟨q_896, q_894, q_895, q_4, ⟨by decide, by decide⟩, by decide +kernel⟩
theorem cf_X3_blame : kCF yX3_blame cX3_blame 5 (some .long) 1 := ⟨q_905, q_903, q_904, q_4, ⟨by decide, by decide⟩, by decide +kernel⟩
theorem cf_X3_balanceBySamples : kCF yX3_balanceBySamples cX3_balanceBySamples 2 (some .long) 1 := ⟨q_913, q_911, q_912, q_4, ⟨by decide, by decide⟩, by decide +kernel⟩
theorem cf_X3_wayOf : kCF yX3_wayOf cX3_wayOf 2 (some .char) 1 := ⟨q_919, q_917, q_918, q_4, ⟨by decide, by decide⟩, by decide +kernel⟩
theorem cf_X3_spoiltShare : kCF yX3_spoiltShare cX3_spoiltShare 4 (some .float) 0 := ⟨q_923, q_921, q_922, q_4, ⟨by decide, by decide⟩, by decide +kernel⟩
theorem cf_X3_meanPay : kCF yX3_meanPay cX3_meanPay 5 (some .double) 0 := ⟨q_927, q_925, q_926, q_4, ⟨by decide, by decide⟩, by decide +kernel⟩
theorem cf_L_addFarm : kCH yL_addFarm cL_addFarm 4 (some .int) [(0, 9, 12, 13), (0, 9, 15, 15)] 3 := ⟨q_146, q_145, q_0, ⟨by decide, by decide⟩, by decide +kernel⟩
theorem cf_L_addCow : kCH yL_addCow cL_addCow 5 (some .int) [(0, 10, 13, 21), (0, 10, 17, 13), (0, 10, 21, 15)] 4 := ⟨q_247, q_246, q_0, ⟨by decide, by decide⟩, by decide +kernel⟩
theorem cf_L_milkOf : kCH yL_milkOf cL_milkOf 5 (some .int) [(0, 10, 13, 21), (0, 10, 17, 13)] 4 := ⟨q_301, q_300, q_0, ⟨by decide, by decide⟩, by decide +kernel⟩
theorem cf_L_inTank : kCH yL_inTank cL_inTank 4 (some .int) [(0, 9, 12, 21)] 3 := ⟨q_322, q_321, q_0, ⟨by decide, by decide⟩, by decide +kernel⟩
theorem cf_L_pass : kCH yL_pass cL_pass 4 (some .int) [(0, 9, 12, 13)] 3 := ⟨q_329, q_328, q_0, ⟨by decide, by decide⟩, by decide +kernel⟩
theorem cf_L_addVat : kCH yL_addVat cL_addVat 4 (some .int) [(0, 9, 12, 13), (0, 9, 15, 15)] 3 := ⟨q_345, q_344, q_0, ⟨by decide, by decide⟩, by decide +kernel⟩
theorem cf_L_beginRound : kCH yL_beginRound cL_beginRound 3 (some .int) [(0, 8, 11, 15)] 2 := ⟨q_354, q_353, q_0, ⟨by decide, by decide⟩, by decide +kernel⟩
theorem cf_L_visit : kCH yL_visit cL_visit 4 (some .int) [(0, 9, 12, 21), (0, 9, 15, 15)] 3 := ⟨q_362, q_361, q_0, ⟨by decide, by decide⟩, by decide +kernel⟩
theorem cf_L_endRound : kCH yL_endRound cL_endRound 4 (some .int) [(0, 9, 12, 21), (0, 9, 15, 15), (0, 9, 18, 45)] 3 := ⟨q_381, q_380, q_0, ⟨by decide, by decide⟩, by decide +kernel⟩
theorem cf_L_inVat : kCH yL_inVat cL_inVat 4 (some .int) [(0, 9, 12, 21)] 3 := ⟨q_427, q_426, q_0, ⟨by decide, by decide⟩, by decide +kernel⟩
theorem cf_L_bestVat : kCH yL_bestVat cL_bestVat 3 (some .int) [(0, 8, 11, 53)] 2 := ⟨q_431, q_430, q_0, ⟨by decide, by decide⟩, by decide +kernel⟩
theorem cf_L_close : kCH yL_close cL_close 4 (some .int) [(0, 9, 12, 21), (0, 9, 15, 45), (0, 9, 18, 15)] 3 := ⟨q_455, q_454, q_0, ⟨by decide, by decide⟩, by decide +kernel⟩
theorem cf_L_farmOf : kCH yL_farmOf cL_farmOf 4 (some .int) [(0, 9, 12, 21)] 3 := ⟨q_507, q_506, q_0, ⟨by decide, by decide⟩, by decide +kernel⟩
theorem cf_L_litres : kCH yL_litres cL_litres 4 (some .int) [(0, 9, 12, 21)] 3 := ⟨q_519, q_518, q_0, ⟨by decide, by decide⟩, by decide +kernel⟩
theorem cf_L_grade : kCH yL_grade cL_grade 5 (some .int) [(0, 10, 13, 21), (0, 10, 17, 13), (0, 10, 21, 15)] 4 := ⟨q_526, q_525, q_0, ⟨by decide, by decide⟩, by decide +kernel⟩
theorem cf_L_gradeOf : kCH yL_gradeOf cL_gradeOf 4 (some .int) [(0, 9, 12, 21)] 3 := ⟨q_539, q_538, q_0, ⟨by decide, by decide⟩, by decide +kernel⟩
theorem cf_L_stateOf : kCH yL_stateOf cL_stateOf 4 (some .int) [(0, 9, 12, 21)] 3 := ⟨q_546, q_545, q_0, ⟨by decide, by decide⟩, by decide +kernel⟩
theorem cf_L_share : kCH yL_share cL_share 5 (some .int) [(0, 10, 13, 21), (0, 10, 17, 53)] 4 := ⟨q_560, q_559, q_0, ⟨by decide, by decide⟩, by decide +kernel⟩
theorem cf_L_worth : kCH yL_worth cL_worth 4 (some .int) [(0, 9, 12, 21), (0, 9, 15, 45)] 3 := ⟨q_572, q_571, q_0, ⟨by decide, by decide⟩, by decide +kernel⟩
theorem cf_L_loss : kCH yL_loss cL_loss 4 (some .int) [(0, 9, 12, 21), (0, 9, 15, 45)] 3 := ⟨q_588, q_587, q_0, ⟨by decide, by decide⟩, by decide +kernel⟩
theorem cf_L_pay : kCH yL_pay cL_pay 4 (some .int) [(0, 8, 11, 21)] 3 := ⟨q_596, q_595, q_0, ⟨by decide, by decide⟩, by decide +kernel⟩
theorem cf_L_blame : kCH yL_blame cL_blame 4 (some .int) [(0, 8, 11, 21)] 3 := ⟨q_607, q_606, q_0, ⟨by decide, by decide⟩, by decide +kernel⟩
theorem cf_L_balanceBySamples : kCH yL_balanceBySamples cL_balanceBySamples 4 (some .int) [(0, 8, 11, 21)] 3 := ⟨q_618, q_617, q_0, ⟨by decide, by decide⟩, by decide +kernel⟩
theorem cf_L_wayOf : kCH yL_wayOf cL_wayOf 4 (some .int) [(0, 9, 12, 21)] 3 := ⟨q_629, q_628, q_0, ⟨by decide, by decide⟩, by decide +kernel⟩
theorem cf_L_spoiltShare : kCH yL_spoiltShare cL_spoiltShare 3 (some .int) [(0, 8, 11, 101)] 2 := ⟨q_636, q_635, q_0, ⟨by decide, by decide⟩, by decide +kernel⟩
theorem cf_L_meanPay : kCH yL_meanPay cL_meanPay 3 (some .int) [(0, 7, 10, 101)] 2 := ⟨q_664, q_663, q_0, ⟨by decide, by decide⟩, by decide +kernel⟩
theorem gx_IllegalArgumentException : ∀ w ∈ (vx_atS RX2 52 "java/lang/IllegalArgumentException" ["java/lang/RuntimeException", "java/lang/Exception"]).filter goodWord, w ∈ lw_all := fun w h => List.mem_filter.mpr ⟨(show ∀ w ∈ (vx_atS RX2 52 "java/lang/IllegalArgumentException" ["java/lang/RuntimeException", "java/lang/Exception"]).filter goodWord, w ∈ lw_tbl by decide +kernel) w h, (List.mem_filter.mp h).2⟩
theorem bx_IllegalArgumentException : ∀ w ∈ (vx_atS RX2 52 "java/lang/IllegalArgumentException" ["java/lang/RuntimeException", "java/lang/Exception"]).filter (fun w => !goodWord w), w ∈ kBadW := by decide +kernel
theorem ox_IllegalArgumentException : ∀ w ∈ Cond.classLink RX2 48 "java/lang/IllegalArgumentException" :: Cond.initialized "java/lang/IllegalArgumentException" :: (vx_atS RX2 52 "java/lang/IllegalArgumentException" ["java/lang/RuntimeException", "java/lang/Exception"]), vx_ot w = true := by decide +kernel
theorem gx_IllegalStateException : ∀ w ∈ (vx_atS RX2 62 "java/lang/IllegalStateException" ["java/lang/RuntimeException", "java/lang/Exception"]).filter goodWord, w ∈ lw_all := fun w h => List.mem_filter.mpr ⟨(show ∀ w ∈ (vx_atS RX2 62 "java/lang/IllegalStateException" ["java/lang/RuntimeException", "java/lang/Exception"]).filter goodWord, w ∈ lw_tbl by decide +kernel) w h, (List.mem_filter.mp h).2⟩
theorem bx_IllegalStateException : ∀ w ∈ (vx_atS RX2 62 "java/lang/IllegalStateException" ["java/lang/RuntimeException", "java/lang/Exception"]).filter (fun w => !goodWord w), w ∈ kBadW := by decide +kernel
theorem ox_IllegalStateException : ∀ w ∈ Cond.classLink RX2 58 "java/lang/IllegalStateException" :: Cond.initialized "java/lang/IllegalStateException" :: (vx_atS RX2 62 "java/lang/IllegalStateException" ["java/lang/RuntimeException", "java/lang/Exception"]), vx_ot w = true := by decide +kernel
theorem gx_IndexOutOfBoundsException : ∀ w ∈ (vx_atS RX2 231 "java/lang/IndexOutOfBoundsException" ["java/lang/RuntimeException", "java/lang/Exception"]).filter goodWord, w ∈ lw_all := fun w h => List.mem_filter.mpr ⟨(show ∀ w ∈ (vx_atS RX2 231 "java/lang/IndexOutOfBoundsException" ["java/lang/RuntimeException", "java/lang/Exception"]).filter goodWord, w ∈ lw_tbl by decide +kernel) w h, (List.mem_filter.mp h).2⟩
theorem bx_IndexOutOfBoundsException : ∀ w ∈ (vx_atS RX2 231 "java/lang/IndexOutOfBoundsException" ["java/lang/RuntimeException", "java/lang/Exception"]).filter (fun w => !goodWord w), w ∈ kBadW := by decide +kernel
theorem ox_IndexOutOfBoundsException : ∀ w ∈ Cond.classLink RX2 227 "java/lang/IndexOutOfBoundsException" :: Cond.initialized "java/lang/IndexOutOfBoundsException" :: (vx_atS RX2 231 "java/lang/IndexOutOfBoundsException" ["java/lang/RuntimeException", "java/lang/Exception"]), vx_ot w = true := by decide +kernel
theorem gx_UnsupportedOperationException : ∀ w ∈ (vx_atS RX2 128 "java/lang/UnsupportedOperationException" ["java/lang/RuntimeException", "java/lang/Exception"]).filter goodWord, w ∈ lw_all := fun w h => List.mem_filter.mpr ⟨(show ∀ w ∈ (vx_atS RX2 128 "java/lang/UnsupportedOperationException" ["java/lang/RuntimeException", "java/lang/Exception"]).filter goodWord, w ∈ lw_tbl by decide +kernel) w h, (List.mem_filter.mp h).2⟩
theorem bx_UnsupportedOperationException : ∀ w ∈ (vx_atS RX2 128 "java/lang/UnsupportedOperationException" ["java/lang/RuntimeException", "java/lang/Exception"]).filter (fun w => !goodWord w), w ∈ kBadW := by decide +kernel
theorem ox_UnsupportedOperationException : ∀ w ∈ Cond.classLink RX2 124 "java/lang/UnsupportedOperationException" :: Cond.initialized "java/lang/UnsupportedOperationException" :: (vx_atS RX2 128 "java/lang/UnsupportedOperationException" ["java/lang/RuntimeException", "java/lang/Exception"]), vx_ot w = true := by decide +kernel
theorem gx_ArithmeticException : ∀ w ∈ (vx_atS RX2 224 "java/lang/ArithmeticException" ["java/lang/RuntimeException", "java/lang/Exception"]).filter goodWord, w ∈ lw_all := fun w h => List.mem_filter.mpr ⟨(show ∀ w ∈ (vx_atS RX2 224 "java/lang/ArithmeticException" ["java/lang/RuntimeException", "java/lang/Exception"]).filter goodWord, w ∈ lw_tbl by decide +kernel) w h, (List.mem_filter.mp h).2⟩
theorem bx_ArithmeticException : ∀ w ∈ (vx_atS RX2 224 "java/lang/ArithmeticException" ["java/lang/RuntimeException", "java/lang/Exception"]).filter (fun w => !goodWord w), w ∈ kBadW := by decide +kernel
theorem ox_ArithmeticException : ∀ w ∈ Cond.classLink RX2 220 "java/lang/ArithmeticException" :: Cond.initialized "java/lang/ArithmeticException" :: (vx_atS RX2 224 "java/lang/ArithmeticException" ["java/lang/RuntimeException", "java/lang/Exception"]), vx_ot w = true := by decide +kernel
end
section
set_option maxRecDepth 100000 in
set_option maxHeartbeats 4000000 in
theorem m_X1_isIn (l : Launch) (D : va_G) (k : Nat → ClassId) (h : Nat) (a0 : Nat) (a1 : Nat) (a2 : Nat) (a3 : Nat) (a4 : Nat) (a5 : Nat) (a6 : Nat) (n : Nat) (farm : Nat → Int32) (amount : Nat → Int32) (mark : Nat → Int32) (place : Nat → Int32) (number : Nat → Int32) (paid : Nat → Int32) (blamed : Nat → Int32) (j : Nat) (wh : Int32) (wi : Int32) (hj : j < 100) : mR l yX1_isIn cX1_isIn 4 (some .boolean) 0 0 D (kTy k) [.ref h, .int (nI j), .int wh, .int wi] (wSA k h a0 a1 a2 a3 a4 a5 a6 (nI n) farm amount mark place number paid blamed) (some (.int (kB (cIn place number wh wi j)))) := by
  refine mR.of (lv' := [(0, .ref h), (1, .int (nI j)), (2, .int wh), (3, .int wi)]) (by decide) (Nat.le_of_ble_eq_true rfl) rfl ?_
  intro p e s m args below meth c E hr hlk
  refine k_aload_n E 0 rfl rfl dX1_isIn_0 ?_
  refine k_get E inX1 0 rfl rfl 4 (by decide) q_67 rfl rfl dX1_isIn_1 ?_
  refine k_iload_n E 1 rfl rfl dX1_isIn_4 ?_
  refine k_cald E (j := j) 4 1 rfl rfl rfl (by omega) (by decide) dX1_isIn_5 ?_
  refine k_iload_n E 2 rfl rfl dX1_isIn_6 ?_
  refine k_icmp_ne E (tgt := 24) (by decide) dX1_isIn_7 (fun c7 => ?_) (fun c7 => ?_)
  · skip
    refine k_iconst E (v := 0) (by decide) dX1_isIn_24 ?_
    exact kr_zret E hr hlk rfl (by simp [kB, cIn, *]) dX1_isIn_25
  · skip
    refine k_aload_n E 0 rfl rfl dX1_isIn_10 ?_
    refine k_get E inX1 0 rfl rfl 5 (by decide) q_69 rfl rfl dX1_isIn_11 ?_
    refine k_iload_n E 1 rfl rfl dX1_isIn_14 ?_
    refine k_iald E (j := j) 5 0 rfl rfl rfl (by omega) (by decide) dX1_isIn_15 ?_
    refine k_iload_n E 3 rfl rfl dX1_isIn_16 ?_
    refine k_icmp_ne E (tgt := 24) (by decide) dX1_isIn_17 (fun c17 => ?_) (fun c17 => ?_)
    · skip
      refine k_iconst E (v := 0) (by decide) dX1_isIn_24 ?_
      exact kr_zret E hr hlk rfl (by simp [kB, cIn, *]) dX1_isIn_25
    · skip
      refine k_iconst E (v := 1) (by decide) dX1_isIn_20 ?_
      refine k_goto E (tgt := 25) (by decide) dX1_isIn_21 ?_
      exact kr_zret E hr hlk rfl (by simp [kB, cIn, *]) dX1_isIn_25
set_option maxRecDepth 100000 in
set_option maxHeartbeats 4000000 in
theorem m_X1_isSpoiltIn (l : Launch) (D : va_G) (k : Nat → ClassId) (h : Nat) (a0 : Nat) (a1 : Nat) (a2 : Nat) (a3 : Nat) (a4 : Nat) (a5 : Nat) (a6 : Nat) (n : Nat) (farm : Nat → Int32) (amount : Nat → Int32) (mark : Nat → Int32) (place : Nat → Int32) (number : Nat → Int32) (paid : Nat → Int32) (blamed : Nat → Int32) (j : Nat) (b : Int32) (hj : j < 100) : mR l yX1_isSpoiltIn cX1_isSpoiltIn 3 (some .boolean) 1 23 D (kTy k) [.ref h, .int (nI j), .int b] (wSA k h a0 a1 a2 a3 a4 a5 a6 (nI n) farm amount mark place number paid blamed) (some (.int (kB (cSp mark place number b j)))) := by
  refine mR.of (lv' := [(0, .ref h), (1, .int (nI j)), (2, .int b)]) (by decide) (Nat.le_of_ble_eq_true rfl) rfl ?_
  intro p e s m args below meth c E hr hlk
  refine k_aload_n E 0 rfl rfl dX1_isSpoiltIn_0 ?_
  refine k_get E inX1 0 rfl rfl 3 (by decide) q_65 rfl rfl dX1_isSpoiltIn_1 ?_
  refine k_iload_n E 1 rfl rfl dX1_isSpoiltIn_4 ?_
  refine k_cald E (j := j) 3 1 rfl rfl rfl (by omega) (by decide) dX1_isSpoiltIn_5 ?_
  refine k_bipush E (v := 120) (by decide) dX1_isSpoiltIn_6 ?_
  refine k_icmp_ne E (tgt := 26) (by decide) dX1_isSpoiltIn_8 (fun c8 => ?_) (fun c8 => ?_)
  · skip
    refine k_iconst E (v := 0) (by decide) dX1_isSpoiltIn_26 ?_
    exact kr_zret E hr hlk rfl (by simp [kB, cSp, *]) dX1_isSpoiltIn_27
  · skip
    refine k_aload_n E 0 rfl rfl dX1_isSpoiltIn_11 ?_
    refine k_iload_n E 1 rfl rfl dX1_isSpoiltIn_12 ?_
    refine k_bipush E (v := 98) (by decide) dX1_isSpoiltIn_13 ?_
    refine k_iload_n E 2 rfl rfl dX1_isSpoiltIn_15 ?_
    refine k_callRV [.int (nI j), .int 98, .int b] E (m_X1_isIn l D k h a0 a1 a2 a3 a4 a5 a6 n farm amount mark place number paid blamed j 98 b (by first | assumption | omega)) cf_X1_isIn q_132 [0, 1, 2, 3, 4, 5, 6, 7] rfl 0 rfl rfl rfl rfl ⟨by decide, by decide⟩ (Nat.le_of_ble_eq_true rfl) ⟨by decide, by decide⟩ dX1_isSpoiltIn_16 ?_
    refine k_if_eq E (tgt := 26) (by decide) dX1_isSpoiltIn_19 (fun c19 => ?_) (fun c19 => ?_)
    · skip
      have c19 := kB_f c19
      refine k_iconst E (v := 0) (by decide) dX1_isSpoiltIn_26 ?_
      exact kr_zret E hr hlk rfl (by simp [kB, cSp, *]) dX1_isSpoiltIn_27
    · skip
      have c19 := kB_t c19
      refine k_iconst E (v := 1) (by decide) dX1_isSpoiltIn_22 ?_
      refine k_goto E (tgt := 27) (by decide) dX1_isSpoiltIn_23 ?_
      exact kr_zret E hr hlk rfl (by simp [kB, cSp, *]) dX1_isSpoiltIn_27
set_option maxRecDepth 100000 in
set_option maxHeartbeats 4000000 in
theorem m_X1_countIn (l : Launch) (D : va_G) (k : Nat → ClassId) (h : Nat) (a0 : Nat) (a1 : Nat) (a2 : Nat) (a3 : Nat) (a4 : Nat) (a5 : Nat) (a6 : Nat) (n : Nat) (farm : Nat → Int32) (amount : Nat → Int32) (mark : Nat → Int32) (place : Nat → Int32) (number : Nat → Int32) (paid : Nat → Int32) (blamed : Nat → Int32) (wh : Int32) (wi : Int32) (hn : n ≤ 100) : mR l yX1_countIn cX1_countIn 5 (some .int) 1 23 D (kTy k) [.ref h, .int wh, .int wi] (wSA k h a0 a1 a2 a3 a4 a5 a6 (nI n) farm amount mark place number paid blamed) (some (.int (sI (cIn place number wh wi) (fun _ => 1) n))) := by
  refine mR.of (lv' := [(0, .ref h), (1, .int wh), (2, .int wi)]) (by decide) (Nat.le_of_ble_eq_true rfl) rfl ?_
  intro p e s m args below meth c E hr hlk
  have L5 : ∀ (dn : Nat) (i : Nat) (x : Int32), i + dn = n → (x = sI (cIn place number wh wi) (fun _ => 1) i) → kJ p l e (kRm 1 23) s m args below meth c (gR D s.heap) 5 0 0 (MQ below (kQr (some (.int (sI (cIn place number wh wi) (fun _ => 1) n)))) args s 0 0 (fun _ => False)) (wSA k h a0 a1 a2 a3 a4 a5 a6 (nI n) farm amount mark place number paid blamed) 5 [(0, .ref h), (1, .int wh), (2, .int wi), (3, .int x), (4, .int (nI i))] [] := by
    intro dn
    induction dn with
    | zero =>
      intro i x hd hx
      refine k_iload E 4 rfl dX1_countIn_5 ?_
      refine k_aload_n E 0 rfl rfl dX1_countIn_7 ?_
      refine k_get E inX1 0 rfl rfl 0 (by decide) q_59 rfl rfl dX1_countIn_8 ?_
      refine k_icmp_ge E (tgt := 34) (by decide) dX1_countIn_11 (fun c11 => ?_) (fun c11 => absurd ((not_congr (nI_leI (a := n) (b := i) (by omega) (by omega))).mp c11) (by omega))
      have c11 := (nI_leI (a := n) (b := i) (by omega) (by omega)).mp c11
      refine k_iload_n E 3 rfl rfl dX1_countIn_34 ?_
      exact kr_iret E hr hlk (by rw [hx, show i = n by omega]) dX1_countIn_35
    | succ dn ih =>
      intro i x hd hx
      refine k_iload E 4 rfl dX1_countIn_5 ?_
      refine k_aload_n E 0 rfl rfl dX1_countIn_7 ?_
      refine k_get E inX1 0 rfl rfl 0 (by decide) q_59 rfl rfl dX1_countIn_8 ?_
      refine k_icmp_ge E (tgt := 34) (by decide) dX1_countIn_11 (fun c11 => absurd ((nI_leI (a := n) (b := i) (by omega) (by omega)).mp c11) (by omega)) (fun c11 => ?_)
      have c11 := (not_congr (nI_leI (a := n) (b := i) (by omega) (by omega))).mp c11
      refine k_aload_n E 0 rfl rfl dX1_countIn_14 ?_
      refine k_iload E 4 rfl dX1_countIn_15 ?_
      refine k_iload_n E 1 rfl rfl dX1_countIn_17 ?_
      refine k_iload_n E 2 rfl rfl dX1_countIn_18 ?_
      refine k_callRV [.int (nI i), .int wh, .int wi] E (m_X1_isIn l D k h a0 a1 a2 a3 a4 a5 a6 n farm amount mark place number paid blamed i wh wi (by first | assumption | omega)) cf_X1_isIn q_132 [0, 1, 2, 3, 4, 5, 6, 7] rfl 0 rfl rfl rfl rfl ⟨by decide, by decide⟩ (Nat.le_of_ble_eq_true rfl) ⟨by decide, by decide⟩ dX1_countIn_19 ?_
      refine k_if_eq E (tgt := 28) (by decide) dX1_countIn_22 (fun c22 => ?_) (fun c22 => ?_)
      · skip
        have c22 := kB_f c22
        refine k_iinc (q := 4) (v := nI (i + 1)) (lv' := [(4, .int (nI (i + 1))), (0, .ref h), (1, .int wh), (2, .int wi), (3, .int x)]) E rfl (nI_inc _) (by decide) rfl dX1_countIn_28 ?_
        refine k_goto E (tgt := 5) (by decide) dX1_countIn_31 ?_
        refine k_lv [1, 2, 3, 4, 0] rfl ?_
        exact ih (i + 1) x (by omega) (by simp [sI, *])
      · skip
        have c22 := kB_t c22
        refine k_iinc (q := 3) (v := x + 1) (lv' := [(3, .int (x + 1)), (0, .ref h), (1, .int wh), (2, .int wi), (4, .int (nI i))]) E rfl rfl (by decide) rfl dX1_countIn_25 ?_
        refine k_iinc (q := 4) (v := nI (i + 1)) (lv' := [(4, .int (nI (i + 1))), (3, .int (x + 1)), (0, .ref h), (1, .int wh), (2, .int wi)]) E rfl (nI_inc _) (by decide) rfl dX1_countIn_28 ?_
        refine k_goto E (tgt := 5) (by decide) dX1_countIn_31 ?_
        refine k_lv [2, 3, 4, 1, 0] rfl ?_
        exact ih (i + 1) (x + 1) (by omega) (by simp [sI, *])
  refine k_iconst E (v := 0) (by decide) dX1_countIn_0 ?_
  refine k_istore_n (lv' := [(3, .int 0), (0, .ref h), (1, .int wh), (2, .int wi)]) E rfl (by decide) rfl dX1_countIn_1 ?_
  refine k_iconst E (v := 0) (by decide) dX1_countIn_2 ?_
  refine k_istore (lv' := [(4, .int 0), (3, .int 0), (0, .ref h), (1, .int wh), (2, .int wi)]) E (by decide) rfl dX1_countIn_3 ?_
  refine k_lv [2, 3, 4, 1, 0] rfl ?_
  exact L5 (n - 0) 0 0 (by omega) rfl
set_option maxRecDepth 100000 in
set_option maxHeartbeats 4000000 in
theorem m_X1_litresIn (l : Launch) (D : va_G) (k : Nat → ClassId) (h : Nat) (a0 : Nat) (a1 : Nat) (a2 : Nat) (a3 : Nat) (a4 : Nat) (a5 : Nat) (a6 : Nat) (n : Nat) (farm : Nat → Int32) (amount : Nat → Int32) (mark : Nat → Int32) (place : Nat → Int32) (number : Nat → Int32) (paid : Nat → Int32) (blamed : Nat → Int32) (wh : Int32) (wi : Int32) (hn : n ≤ 100) : mR l yX1_litresIn cX1_litresIn 5 (some .int) 1 23 D (kTy k) [.ref h, .int wh, .int wi] (wSA k h a0 a1 a2 a3 a4 a5 a6 (nI n) farm amount mark place number paid blamed) (some (.int (sI (cIn place number wh wi) amount n))) := by
  refine mR.of (lv' := [(0, .ref h), (1, .int wh), (2, .int wi)]) (by decide) (Nat.le_of_ble_eq_true rfl) rfl ?_
  intro p e s m args below meth c E hr hlk
  have L5 : ∀ (dn : Nat) (i : Nat) (x : Int32), i + dn = n → (x = sI (cIn place number wh wi) amount i) → kJ p l e (kRm 1 23) s m args below meth c (gR D s.heap) 5 0 0 (MQ below (kQr (some (.int (sI (cIn place number wh wi) amount n)))) args s 0 0 (fun _ => False)) (wSA k h a0 a1 a2 a3 a4 a5 a6 (nI n) farm amount mark place number paid blamed) 5 [(0, .ref h), (1, .int wh), (2, .int wi), (3, .int x), (4, .int (nI i))] [] := by
    intro dn
    induction dn with
    | zero =>
      intro i x hd hx
      refine k_iload E 4 rfl dX1_litresIn_5 ?_
      refine k_aload_n E 0 rfl rfl dX1_litresIn_7 ?_
      refine k_get E inX1 0 rfl rfl 0 (by decide) q_59 rfl rfl dX1_litresIn_8 ?_
      refine k_icmp_ge E (tgt := 41) (by decide) dX1_litresIn_11 (fun c11 => ?_) (fun c11 => absurd ((not_congr (nI_leI (a := n) (b := i) (by omega) (by omega))).mp c11) (by omega))
      have c11 := (nI_leI (a := n) (b := i) (by omega) (by omega)).mp c11
      refine k_iload_n E 3 rfl rfl dX1_litresIn_41 ?_
      exact kr_iret E hr hlk (by rw [hx, show i = n by omega]) dX1_litresIn_42
    | succ dn ih =>
      intro i x hd hx
      refine k_iload E 4 rfl dX1_litresIn_5 ?_
      refine k_aload_n E 0 rfl rfl dX1_litresIn_7 ?_
      refine k_get E inX1 0 rfl rfl 0 (by decide) q_59 rfl rfl dX1_litresIn_8 ?_
      refine k_icmp_ge E (tgt := 41) (by decide) dX1_litresIn_11 (fun c11 => absurd ((nI_leI (a := n) (b := i) (by omega) (by omega)).mp c11) (by omega)) (fun c11 => ?_)
      have c11 := (not_congr (nI_leI (a := n) (b := i) (by omega) (by omega))).mp c11
      refine k_aload_n E 0 rfl rfl dX1_litresIn_14 ?_
      refine k_iload E 4 rfl dX1_litresIn_15 ?_
      refine k_iload_n E 1 rfl rfl dX1_litresIn_17 ?_
      refine k_iload_n E 2 rfl rfl dX1_litresIn_18 ?_
      refine k_callRV [.int (nI i), .int wh, .int wi] E (m_X1_isIn l D k h a0 a1 a2 a3 a4 a5 a6 n farm amount mark place number paid blamed i wh wi (by first | assumption | omega)) cf_X1_isIn q_132 [0, 1, 2, 3, 4, 5, 6, 7] rfl 0 rfl rfl rfl rfl ⟨by decide, by decide⟩ (Nat.le_of_ble_eq_true rfl) ⟨by decide, by decide⟩ dX1_litresIn_19 ?_
      refine k_if_eq E (tgt := 35) (by decide) dX1_litresIn_22 (fun c22 => ?_) (fun c22 => ?_)
      · skip
        have c22 := kB_f c22
        refine k_iinc (q := 4) (v := nI (i + 1)) (lv' := [(4, .int (nI (i + 1))), (0, .ref h), (1, .int wh), (2, .int wi), (3, .int x)]) E rfl (nI_inc _) (by decide) rfl dX1_litresIn_35 ?_
        refine k_goto E (tgt := 5) (by decide) dX1_litresIn_38 ?_
        refine k_lv [1, 2, 3, 4, 0] rfl ?_
        exact ih (i + 1) x (by omega) (by simp [sI, *])
      · skip
        have c22 := kB_t c22
        refine k_iload_n E 3 rfl rfl dX1_litresIn_25 ?_
        refine k_aload_n E 0 rfl rfl dX1_litresIn_26 ?_
        refine k_get E inX1 0 rfl rfl 2 (by decide) q_63 rfl rfl dX1_litresIn_27 ?_
        refine k_iload E 4 rfl dX1_litresIn_30 ?_
        refine k_iald E (j := i) 2 0 rfl rfl rfl (by omega) (by decide) dX1_litresIn_32 ?_
        refine k_iadd E dX1_litresIn_33 ?_
        refine k_istore_n (lv' := [(3, .int (x + (amount i))), (0, .ref h), (1, .int wh), (2, .int wi), (4, .int (nI i))]) E rfl (by decide) rfl dX1_litresIn_34 ?_
        refine k_iinc (q := 4) (v := nI (i + 1)) (lv' := [(4, .int (nI (i + 1))), (3, .int (x + (amount i))), (0, .ref h), (1, .int wh), (2, .int wi)]) E rfl (nI_inc _) (by decide) rfl dX1_litresIn_35 ?_
        refine k_goto E (tgt := 5) (by decide) dX1_litresIn_38 ?_
        refine k_lv [2, 3, 4, 1, 0] rfl ?_
        exact ih (i + 1) (x + (amount i)) (by omega) (by simp [sI, *])
  refine k_iconst E (v := 0) (by decide) dX1_litresIn_0 ?_
  refine k_istore_n (lv' := [(3, .int 0), (0, .ref h), (1, .int wh), (2, .int wi)]) E rfl (by decide) rfl dX1_litresIn_1 ?_
  refine k_iconst E (v := 0) (by decide) dX1_litresIn_2 ?_
  refine k_istore (lv' := [(4, .int 0), (3, .int 0), (0, .ref h), (1, .int wh), (2, .int wi)]) E (by decide) rfl dX1_litresIn_3 ?_
  refine k_lv [2, 3, 4, 1, 0] rfl ?_
  exact L5 (n - 0) 0 0 (by omega) rfl
set_option maxRecDepth 100000 in
set_option maxHeartbeats 4000000 in
theorem m_X1_allLitres (l : Launch) (D : va_G) (k : Nat → ClassId) (h : Nat) (a0 : Nat) (a1 : Nat) (a2 : Nat) (a3 : Nat) (a4 : Nat) (a5 : Nat) (a6 : Nat) (n : Nat) (farm : Nat → Int32) (amount : Nat → Int32) (mark : Nat → Int32) (place : Nat → Int32) (number : Nat → Int32) (paid : Nat → Int32) (blamed : Nat → Int32) (hn : n ≤ 100) : mR l yX1_allLitres cX1_allLitres 3 (some .int) 0 0 D (kTy k) [.ref h] (wSA k h a0 a1 a2 a3 a4 a5 a6 (nI n) farm amount mark place number paid blamed) (some (.int (sI (fun _ => true) amount n))) := by
  refine mR.of (lv' := [(0, .ref h)]) (by decide) (Nat.le_of_ble_eq_true rfl) rfl ?_
  intro p e s m args below meth c E hr hlk
  have L4 : ∀ (dn : Nat) (i : Nat) (x : Int32), i + dn = n → (x = sI (fun _ => true) amount i) → kJ p l e (kRm 0 0) s m args below meth c (gR D s.heap) 3 0 0 (MQ below (kQr (some (.int (sI (fun _ => true) amount n)))) args s 0 0 (fun _ => False)) (wSA k h a0 a1 a2 a3 a4 a5 a6 (nI n) farm amount mark place number paid blamed) 4 [(0, .ref h), (1, .int x), (2, .int (nI i))] [] := by
    intro dn
    induction dn with
    | zero =>
      intro i x hd hx
      refine k_iload_n E 2 rfl rfl dX1_allLitres_4 ?_
      refine k_aload_n E 0 rfl rfl dX1_allLitres_5 ?_
      refine k_get E inX1 0 rfl rfl 0 (by decide) q_59 rfl rfl dX1_allLitres_6 ?_
      refine k_icmp_ge E (tgt := 27) (by decide) dX1_allLitres_9 (fun c9 => ?_) (fun c9 => absurd ((not_congr (nI_leI (a := n) (b := i) (by omega) (by omega))).mp c9) (by omega))
      have c9 := (nI_leI (a := n) (b := i) (by omega) (by omega)).mp c9
      refine k_iload_n E 1 rfl rfl dX1_allLitres_27 ?_
      exact kr_iret E hr hlk (by rw [hx, show i = n by omega]) dX1_allLitres_28
    | succ dn ih =>
      intro i x hd hx
      refine k_iload_n E 2 rfl rfl dX1_allLitres_4 ?_
      refine k_aload_n E 0 rfl rfl dX1_allLitres_5 ?_
      refine k_get E inX1 0 rfl rfl 0 (by decide) q_59 rfl rfl dX1_allLitres_6 ?_
      refine k_icmp_ge E (tgt := 27) (by decide) dX1_allLitres_9 (fun c9 => absurd ((nI_leI (a := n) (b := i) (by omega) (by omega)).mp c9) (by omega)) (fun c9 => ?_)
      have c9 := (not_congr (nI_leI (a := n) (b := i) (by omega) (by omega))).mp c9
      refine k_iload_n E 1 rfl rfl dX1_allLitres_12 ?_
      refine k_aload_n E 0 rfl rfl dX1_allLitres_13 ?_
      refine k_get E inX1 0 rfl rfl 2 (by decide) q_63 rfl rfl dX1_allLitres_14 ?_
      refine k_iload_n E 2 rfl rfl dX1_allLitres_17 ?_
      refine k_iald E (j := i) 2 0 rfl rfl rfl (by omega) (by decide) dX1_allLitres_18 ?_
      refine k_iadd E dX1_allLitres_19 ?_
      refine k_istore_n (lv' := [(1, .int (x + (amount i))), (0, .ref h), (2, .int (nI i))]) E rfl (by decide) rfl dX1_allLitres_20 ?_
      refine k_iinc (q := 2) (v := nI (i + 1)) (lv' := [(2, .int (nI (i + 1))), (1, .int (x + (amount i))), (0, .ref h)]) E rfl (nI_inc _) (by decide) rfl dX1_allLitres_21 ?_
      refine k_goto E (tgt := 4) (by decide) dX1_allLitres_24 ?_
      refine k_lv [2, 1, 0] rfl ?_
      exact ih (i + 1) (x + (amount i)) (by omega) (by simp [sI, *])
  refine k_iconst E (v := 0) (by decide) dX1_allLitres_0 ?_
  refine k_istore_n (lv' := [(1, .int 0), (0, .ref h)]) E rfl (by decide) rfl dX1_allLitres_1 ?_
  refine k_iconst E (v := 0) (by decide) dX1_allLitres_2 ?_
  refine k_istore_n (lv' := [(2, .int 0), (1, .int 0), (0, .ref h)]) E rfl (by decide) rfl dX1_allLitres_3 ?_
  refine k_lv [2, 1, 0] rfl ?_
  exact L4 (n - 0) 0 0 (by omega) rfl
set_option maxRecDepth 100000 in
set_option maxHeartbeats 4000000 in
theorem m_X1_ungraded (l : Launch) (D : va_G) (k : Nat → ClassId) (h : Nat) (a0 : Nat) (a1 : Nat) (a2 : Nat) (a3 : Nat) (a4 : Nat) (a5 : Nat) (a6 : Nat) (n : Nat) (farm : Nat → Int32) (amount : Nat → Int32) (mark : Nat → Int32) (place : Nat → Int32) (number : Nat → Int32) (paid : Nat → Int32) (blamed : Nat → Int32) (hn : n ≤ 100) : mR l yX1_ungraded cX1_ungraded 3 (some .int) 0 0 D (kTy k) [.ref h] (wSA k h a0 a1 a2 a3 a4 a5 a6 (nI n) farm amount mark place number paid blamed) (some (.int (sI (fun j => decide (mark j = 45)) (fun _ => 1) n))) := by
  refine mR.of (lv' := [(0, .ref h)]) (by decide) (Nat.le_of_ble_eq_true rfl) rfl ?_
  intro p e s m args below meth c E hr hlk
  have L4 : ∀ (dn : Nat) (i : Nat) (x : Int32), i + dn = n → (x = sI (fun j => decide (mark j = 45)) (fun _ => 1) i) → kJ p l e (kRm 0 0) s m args below meth c (gR D s.heap) 3 0 0 (MQ below (kQr (some (.int (sI (fun j => decide (mark j = 45)) (fun _ => 1) n)))) args s 0 0 (fun _ => False)) (wSA k h a0 a1 a2 a3 a4 a5 a6 (nI n) farm amount mark place number paid blamed) 4 [(0, .ref h), (1, .int x), (2, .int (nI i))] [] := by
    intro dn
    induction dn with
    | zero =>
      intro i x hd hx
      refine k_iload_n E 2 rfl rfl dX1_ungraded_4 ?_
      refine k_aload_n E 0 rfl rfl dX1_ungraded_5 ?_
      refine k_get E inX1 0 rfl rfl 0 (by decide) q_59 rfl rfl dX1_ungraded_6 ?_
      refine k_icmp_ge E (tgt := 32) (by decide) dX1_ungraded_9 (fun c9 => ?_) (fun c9 => absurd ((not_congr (nI_leI (a := n) (b := i) (by omega) (by omega))).mp c9) (by omega))
      have c9 := (nI_leI (a := n) (b := i) (by omega) (by omega)).mp c9
      refine k_iload_n E 1 rfl rfl dX1_ungraded_32 ?_
      exact kr_iret E hr hlk (by rw [hx, show i = n by omega]) dX1_ungraded_33
    | succ dn ih =>
      intro i x hd hx
      refine k_iload_n E 2 rfl rfl dX1_ungraded_4 ?_
      refine k_aload_n E 0 rfl rfl dX1_ungraded_5 ?_
      refine k_get E inX1 0 rfl rfl 0 (by decide) q_59 rfl rfl dX1_ungraded_6 ?_
      refine k_icmp_ge E (tgt := 32) (by decide) dX1_ungraded_9 (fun c9 => absurd ((nI_leI (a := n) (b := i) (by omega) (by omega)).mp c9) (by omega)) (fun c9 => ?_)
      have c9 := (not_congr (nI_leI (a := n) (b := i) (by omega) (by omega))).mp c9
      refine k_aload_n E 0 rfl rfl dX1_ungraded_12 ?_
      refine k_get E inX1 0 rfl rfl 3 (by decide) q_65 rfl rfl dX1_ungraded_13 ?_
      refine k_iload_n E 2 rfl rfl dX1_ungraded_16 ?_
      refine k_cald E (j := i) 3 1 rfl rfl rfl (by omega) (by decide) dX1_ungraded_17 ?_
      refine k_bipush E (v := 45) (by decide) dX1_ungraded_18 ?_
      refine k_icmp_ne E (tgt := 26) (by decide) dX1_ungraded_20 (fun c20 => ?_) (fun c20 => ?_)
      · skip
        refine k_iinc (q := 2) (v := nI (i + 1)) (lv' := [(2, .int (nI (i + 1))), (0, .ref h), (1, .int x)]) E rfl (nI_inc _) (by decide) rfl dX1_ungraded_26 ?_
        refine k_goto E (tgt := 4) (by decide) dX1_ungraded_29 ?_
        refine k_lv [1, 2, 0] rfl ?_
        exact ih (i + 1) x (by omega) (by simp [sI, *])
      · skip
        refine k_iinc (q := 1) (v := x + 1) (lv' := [(1, .int (x + 1)), (0, .ref h), (2, .int (nI i))]) E rfl rfl (by decide) rfl dX1_ungraded_23 ?_
        refine k_iinc (q := 2) (v := nI (i + 1)) (lv' := [(2, .int (nI (i + 1))), (1, .int (x + 1)), (0, .ref h)]) E rfl (nI_inc _) (by decide) rfl dX1_ungraded_26 ?_
        refine k_goto E (tgt := 4) (by decide) dX1_ungraded_29 ?_
        refine k_lv [2, 1, 0] rfl ?_
        exact ih (i + 1) (x + 1) (by omega) (by simp [sI, *])
  refine k_iconst E (v := 0) (by decide) dX1_ungraded_0 ?_
  refine k_istore_n (lv' := [(1, .int 0), (0, .ref h)]) E rfl (by decide) rfl dX1_ungraded_1 ?_
  refine k_iconst E (v := 0) (by decide) dX1_ungraded_2 ?_
  refine k_istore_n (lv' := [(2, .int 0), (1, .int 0), (0, .ref h)]) E rfl (by decide) rfl dX1_ungraded_3 ?_
  refine k_lv [2, 1, 0] rfl ?_
  exact L4 (n - 0) 0 0 (by omega) rfl
set_option maxRecDepth 100000 in
set_option maxHeartbeats 4000000 in
theorem m_X1_spoiltLitres (l : Launch) (D : va_G) (k : Nat → ClassId) (h : Nat) (a0 : Nat) (a1 : Nat) (a2 : Nat) (a3 : Nat) (a4 : Nat) (a5 : Nat) (a6 : Nat) (n : Nat) (farm : Nat → Int32) (amount : Nat → Int32) (mark : Nat → Int32) (place : Nat → Int32) (number : Nat → Int32) (paid : Nat → Int32) (blamed : Nat → Int32) (b : Int32) (hn : n ≤ 100) : mR l yX1_spoiltLitres cX1_spoiltLitres 4 (some .int) 2 45 D (kTy k) [.ref h, .int b] (wSA k h a0 a1 a2 a3 a4 a5 a6 (nI n) farm amount mark place number paid blamed) (some (.int (spl mark place number amount b n))) := by
  refine mR.of (lv' := [(0, .ref h), (1, .int b)]) (by decide) (Nat.le_of_ble_eq_true rfl) rfl ?_
  intro p e s m args below meth c E hr hlk
  have L4 : ∀ (dn : Nat) (i : Nat) (x : Int32), i + dn = n → (x = sI (cSp mark place number b) amount i) → kJ p l e (kRm 2 45) s m args below meth c (gR D s.heap) 4 0 0 (MQ below (kQr (some (.int (spl mark place number amount b n)))) args s 0 0 (fun _ => False)) (wSA k h a0 a1 a2 a3 a4 a5 a6 (nI n) farm amount mark place number paid blamed) 4 [(0, .ref h), (1, .int b), (2, .int x), (3, .int (nI i))] [] := by
    intro dn
    induction dn with
    | zero =>
      intro i x hd hx
      refine k_iload_n E 3 rfl rfl dX1_spoiltLitres_4 ?_
      refine k_aload_n E 0 rfl rfl dX1_spoiltLitres_5 ?_
      refine k_get E inX1 0 rfl rfl 0 (by decide) q_59 rfl rfl dX1_spoiltLitres_6 ?_
      refine k_icmp_ge E (tgt := 36) (by decide) dX1_spoiltLitres_9 (fun c9 => ?_) (fun c9 => absurd ((not_congr (nI_leI (a := n) (b := i) (by omega) (by omega))).mp c9) (by omega))
      have c9 := (nI_leI (a := n) (b := i) (by omega) (by omega)).mp c9
      refine k_iload_n E 2 rfl rfl dX1_spoiltLitres_36 ?_
      exact kr_iret E hr hlk (by rw [hx, show i = n by omega]; rfl) dX1_spoiltLitres_37
    | succ dn ih =>
      intro i x hd hx
      refine k_iload_n E 3 rfl rfl dX1_spoiltLitres_4 ?_
      refine k_aload_n E 0 rfl rfl dX1_spoiltLitres_5 ?_
      refine k_get E inX1 0 rfl rfl 0 (by decide) q_59 rfl rfl dX1_spoiltLitres_6 ?_
      refine k_icmp_ge E (tgt := 36) (by decide) dX1_spoiltLitres_9 (fun c9 => absurd ((nI_leI (a := n) (b := i) (by omega) (by omega)).mp c9) (by omega)) (fun c9 => ?_)
      have c9 := (not_congr (nI_leI (a := n) (b := i) (by omega) (by omega))).mp c9
      refine k_aload_n E 0 rfl rfl dX1_spoiltLitres_12 ?_
      refine k_iload_n E 3 rfl rfl dX1_spoiltLitres_13 ?_
      refine k_iload_n E 1 rfl rfl dX1_spoiltLitres_14 ?_
      refine k_callRV [.int (nI i), .int b] E (m_X1_isSpoiltIn l D k h a0 a1 a2 a3 a4 a5 a6 n farm amount mark place number paid blamed i b (by first | assumption | omega)) cf_X1_isSpoiltIn q_474 [0, 1, 2, 3, 4, 5, 6, 7] rfl 0 rfl rfl rfl rfl ⟨by decide, by decide⟩ (Nat.le_of_ble_eq_true rfl) ⟨by decide, by decide⟩ dX1_spoiltLitres_15 ?_
      refine k_if_eq E (tgt := 30) (by decide) dX1_spoiltLitres_18 (fun c18 => ?_) (fun c18 => ?_)
      · skip
        have c18 := kB_f c18
        refine k_iinc (q := 3) (v := nI (i + 1)) (lv' := [(3, .int (nI (i + 1))), (0, .ref h), (1, .int b), (2, .int x)]) E rfl (nI_inc _) (by decide) rfl dX1_spoiltLitres_30 ?_
        refine k_goto E (tgt := 4) (by decide) dX1_spoiltLitres_33 ?_
        refine k_lv [1, 2, 3, 0] rfl ?_
        exact ih (i + 1) x (by omega) (by simp [sI, *])
      · skip
        have c18 := kB_t c18
        refine k_iload_n E 2 rfl rfl dX1_spoiltLitres_21 ?_
        refine k_aload_n E 0 rfl rfl dX1_spoiltLitres_22 ?_
        refine k_get E inX1 0 rfl rfl 2 (by decide) q_63 rfl rfl dX1_spoiltLitres_23 ?_
        refine k_iload_n E 3 rfl rfl dX1_spoiltLitres_26 ?_
        refine k_iald E (j := i) 2 0 rfl rfl rfl (by omega) (by decide) dX1_spoiltLitres_27 ?_
        refine k_iadd E dX1_spoiltLitres_28 ?_
        refine k_istore_n (lv' := [(2, .int (x + (amount i))), (0, .ref h), (1, .int b), (3, .int (nI i))]) E rfl (by decide) rfl dX1_spoiltLitres_29 ?_
        refine k_iinc (q := 3) (v := nI (i + 1)) (lv' := [(3, .int (nI (i + 1))), (2, .int (x + (amount i))), (0, .ref h), (1, .int b)]) E rfl (nI_inc _) (by decide) rfl dX1_spoiltLitres_30 ?_
        refine k_goto E (tgt := 4) (by decide) dX1_spoiltLitres_33 ?_
        refine k_lv [2, 3, 1, 0] rfl ?_
        exact ih (i + 1) (x + (amount i)) (by omega) (by simp [sI, *])
  refine k_iconst E (v := 0) (by decide) dX1_spoiltLitres_0 ?_
  refine k_istore_n (lv' := [(2, .int 0), (0, .ref h), (1, .int b)]) E rfl (by decide) rfl dX1_spoiltLitres_1 ?_
  refine k_iconst E (v := 0) (by decide) dX1_spoiltLitres_2 ?_
  refine k_istore_n (lv' := [(3, .int 0), (2, .int 0), (0, .ref h), (1, .int b)]) E rfl (by decide) rfl dX1_spoiltLitres_3 ?_
  refine k_lv [2, 3, 1, 0] rfl ?_
  exact L4 (n - 0) 0 0 (by omega) rfl
set_option maxRecDepth 100000 in
set_option maxHeartbeats 4000000 in
theorem m_X1_isSpoilt (l : Launch) (D : va_G) (k : Nat → ClassId) (h : Nat) (a0 : Nat) (a1 : Nat) (a2 : Nat) (a3 : Nat) (a4 : Nat) (a5 : Nat) (a6 : Nat) (n : Nat) (farm : Nat → Int32) (amount : Nat → Int32) (mark : Nat → Int32) (place : Nat → Int32) (number : Nat → Int32) (paid : Nat → Int32) (blamed : Nat → Int32) (b : Int32) (hn : n ≤ 100) : mR l yX1_isSpoilt cX1_isSpoilt 2 (some .boolean) 3 68 D (kTy k) [.ref h, .int b] (wSA k h a0 a1 a2 a3 a4 a5 a6 (nI n) farm amount mark place number paid blamed) (some (.int (kB (decide (0 < spl mark place number amount b n))))) := by
  refine mR.of (lv' := [(0, .ref h), (1, .int b)]) (by decide) (Nat.le_of_ble_eq_true rfl) rfl ?_
  intro p e s m args below meth c E hr hlk
  refine k_aload_n E 0 rfl rfl dX1_isSpoilt_0 ?_
  refine k_iload_n E 1 rfl rfl dX1_isSpoilt_1 ?_
  refine k_callRV [.int b] E (m_X1_spoiltLitres l D k h a0 a1 a2 a3 a4 a5 a6 n farm amount mark place number paid blamed b (by first | assumption | omega)) cf_X1_spoiltLitres q_470 [0, 1, 2, 3, 4, 5, 6, 7] rfl 0 rfl rfl rfl rfl ⟨by decide, by decide⟩ (Nat.le_of_ble_eq_true rfl) ⟨by decide, by decide⟩ dX1_isSpoilt_2 ?_
  refine k_if_le E (tgt := 12) (by decide) dX1_isSpoilt_5 (fun c5 => ?_) (fun c5 => ?_)
  · skip
    refine k_iconst E (v := 0) (by decide) dX1_isSpoilt_12 ?_
    exact kr_zret E hr hlk rfl (by simp [kB, *]) dX1_isSpoilt_13
  · skip
    refine k_iconst E (v := 1) (by decide) dX1_isSpoilt_8 ?_
    refine k_goto E (tgt := 13) (by decide) dX1_isSpoilt_9 ?_
    exact kr_zret E hr hlk rfl (by simp [kB, *]) dX1_isSpoilt_13
set_option maxRecDepth 100000 in
set_option maxHeartbeats 4000000 in
theorem m_X1_centsALitre (l : Launch) (D : va_G) (k : Nat → ClassId) (g : Int32)  : mR l yX1_centsALitre cX1_centsALitre 1 (some .int) 0 0 D (kTy k) [.int g] ([] : va_W) (some (.int (cents g))) := by
  refine mR.of (lv' := [(0, .int g)]) (by decide) (Nat.le_of_ble_eq_true rfl) rfl ?_
  intro p e s m args below meth c E hr hlk
  refine k_iload_n E 0 rfl rfl dX1_centsALitre_0 ?_
  refine k_bipush E (v := 97) (by decide) dX1_centsALitre_1 ?_
  refine k_icmp_ne E (tgt := 9) (by decide) dX1_centsALitre_3 (fun c3 => ?_) (fun c3 => ?_)
  · skip
    refine k_iload_n E 0 rfl rfl dX1_centsALitre_9 ?_
    refine k_bipush E (v := 98) (by decide) dX1_centsALitre_10 ?_
    refine k_icmp_ne E (tgt := 18) (by decide) dX1_centsALitre_12 (fun c12 => ?_) (fun c12 => ?_)
    · skip
      refine k_iload_n E 0 rfl rfl dX1_centsALitre_18 ?_
      refine k_bipush E (v := 99) (by decide) dX1_centsALitre_19 ?_
      refine k_icmp_ne E (tgt := 29) (by decide) dX1_centsALitre_21 (fun c21 => ?_) (fun c21 => ?_)
      · skip
        refine k_iconst E (v := 0) (by decide) dX1_centsALitre_29 ?_
        exact kr_iret E hr hlk (by simp [cents, *]) dX1_centsALitre_30
      · skip
        refine k_bipush E (v := 25) (by decide) dX1_centsALitre_24 ?_
        refine k_goto E (tgt := 30) (by decide) dX1_centsALitre_26 ?_
        exact kr_iret E hr hlk (by simp [cents, *]) dX1_centsALitre_30
    · skip
      refine k_bipush E (v := 34) (by decide) dX1_centsALitre_15 ?_
      exact kr_iret E hr hlk (by simp [cents, *]) dX1_centsALitre_17
  · skip
    refine k_bipush E (v := 40) (by decide) dX1_centsALitre_6 ?_
    exact kr_iret E hr hlk (by simp [cents, *]) dX1_centsALitre_8
set_option maxRecDepth 100000 in
set_option maxHeartbeats 4000000 in
theorem m_X1_valueOfSample (l : Launch) (D : va_G) (k : Nat → ClassId) (h : Nat) (a0 : Nat) (a1 : Nat) (a2 : Nat) (a3 : Nat) (a4 : Nat) (a5 : Nat) (a6 : Nat) (n : Nat) (farm : Nat → Int32) (amount : Nat → Int32) (mark : Nat → Int32) (place : Nat → Int32) (number : Nat → Int32) (paid : Nat → Int32) (blamed : Nat → Int32) (j : Nat) (hj : j < 100) : mR l yX1_valueOfSample cX1_valueOfSample 2 (some .int) 1 20 D (kTy k) [.ref h, .int (nI j)] (wSA k h a0 a1 a2 a3 a4 a5 a6 (nI n) farm amount mark place number paid blamed) (some (.int (amount j * cents (mark j)))) := by
  refine mR.of (lv' := [(0, .ref h), (1, .int (nI j))]) (by decide) (Nat.le_of_ble_eq_true rfl) rfl ?_
  intro p e s m args below meth c E hr hlk
  refine k_aload_n E 0 rfl rfl dX1_valueOfSample_0 ?_
  refine k_get E inX1 0 rfl rfl 2 (by decide) q_63 rfl rfl dX1_valueOfSample_1 ?_
  refine k_iload_n E 1 rfl rfl dX1_valueOfSample_4 ?_
  refine k_iald E (j := j) 2 0 rfl rfl rfl (by omega) (by decide) dX1_valueOfSample_5 ?_
  refine k_aload_n E 0 rfl rfl dX1_valueOfSample_6 ?_
  refine k_get E inX1 0 rfl rfl 3 (by decide) q_65 rfl rfl dX1_valueOfSample_7 ?_
  refine k_iload_n E 1 rfl rfl dX1_valueOfSample_10 ?_
  refine k_cald E (j := j) 3 1 rfl rfl rfl (by omega) (by decide) dX1_valueOfSample_11 ?_
  refine k_callRS [.int (mark j)] E (m_X1_centsALitre l D k (mark j)) cf_X1_centsALitre q_498 [] rfl rfl rfl ⟨by decide, by decide⟩ (Nat.le_of_ble_eq_true rfl) ⟨by decide, by decide⟩ dX1_valueOfSample_12 ?_
  refine k_imul E dX1_valueOfSample_15 ?_
  exact kr_iret E hr hlk rfl dX1_valueOfSample_16
set_option maxRecDepth 100000 in
set_option maxHeartbeats 4000000 in
theorem m_X1_valueOf (l : Launch) (D : va_G) (k : Nat → ClassId) (h : Nat) (a0 : Nat) (a1 : Nat) (a2 : Nat) (a3 : Nat) (a4 : Nat) (a5 : Nat) (a6 : Nat) (n : Nat) (farm : Nat → Int32) (amount : Nat → Int32) (mark : Nat → Int32) (place : Nat → Int32) (number : Nat → Int32) (paid : Nat → Int32) (blamed : Nat → Int32) (b : Int32) (hn : n ≤ 100) : mR l yX1_valueOf cX1_valueOf 4 (some .int) 2 41 D (kTy k) [.ref h, .int b] (wSA k h a0 a1 a2 a3 a4 a5 a6 (nI n) farm amount mark place number paid blamed) (some (.int (valB mark place number amount b n))) := by
  refine mR.of (lv' := [(0, .ref h), (1, .int b)]) (by decide) (Nat.le_of_ble_eq_true rfl) rfl ?_
  intro p e s m args below meth c E hr hlk
  have L4 : ∀ (dn : Nat) (i : Nat) (x : Int32), i + dn = n → (x = sI (cIn place number 98 b) (fun j => amount j * cents (mark j)) i) → kJ p l e (kRm 2 41) s m args below meth c (gR D s.heap) 4 0 0 (MQ below (kQr (some (.int (valB mark place number amount b n)))) args s 0 0 (fun _ => False)) (wSA k h a0 a1 a2 a3 a4 a5 a6 (nI n) farm amount mark place number paid blamed) 4 [(0, .ref h), (1, .int b), (2, .int x), (3, .int (nI i))] [] := by
    intro dn
    induction dn with
    | zero =>
      intro i x hd hx
      refine k_iload_n E 3 rfl rfl dX1_valueOf_4 ?_
      refine k_aload_n E 0 rfl rfl dX1_valueOf_5 ?_
      refine k_get E inX1 0 rfl rfl 0 (by decide) q_59 rfl rfl dX1_valueOf_6 ?_
      refine k_icmp_ge E (tgt := 37) (by decide) dX1_valueOf_9 (fun c9 => ?_) (fun c9 => absurd ((not_congr (nI_leI (a := n) (b := i) (by omega) (by omega))).mp c9) (by omega))
      have c9 := (nI_leI (a := n) (b := i) (by omega) (by omega)).mp c9
      refine k_iload_n E 2 rfl rfl dX1_valueOf_37 ?_
      exact kr_iret E hr hlk (by rw [hx, show i = n by omega]; rfl) dX1_valueOf_38
    | succ dn ih =>
      intro i x hd hx
      refine k_iload_n E 3 rfl rfl dX1_valueOf_4 ?_
      refine k_aload_n E 0 rfl rfl dX1_valueOf_5 ?_
      refine k_get E inX1 0 rfl rfl 0 (by decide) q_59 rfl rfl dX1_valueOf_6 ?_
      refine k_icmp_ge E (tgt := 37) (by decide) dX1_valueOf_9 (fun c9 => absurd ((nI_leI (a := n) (b := i) (by omega) (by omega)).mp c9) (by omega)) (fun c9 => ?_)
      have c9 := (not_congr (nI_leI (a := n) (b := i) (by omega) (by omega))).mp c9
      refine k_aload_n E 0 rfl rfl dX1_valueOf_12 ?_
      refine k_iload_n E 3 rfl rfl dX1_valueOf_13 ?_
      refine k_bipush E (v := 98) (by decide) dX1_valueOf_14 ?_
      refine k_iload_n E 1 rfl rfl dX1_valueOf_16 ?_
      refine k_callRV [.int (nI i), .int 98, .int b] E (m_X1_isIn l D k h a0 a1 a2 a3 a4 a5 a6 n farm amount mark place number paid blamed i 98 b (by first | assumption | omega)) cf_X1_isIn q_132 [0, 1, 2, 3, 4, 5, 6, 7] rfl 0 rfl rfl rfl rfl ⟨by decide, by decide⟩ (Nat.le_of_ble_eq_true rfl) ⟨by decide, by decide⟩ dX1_valueOf_17 ?_
      refine k_if_eq E (tgt := 31) (by decide) dX1_valueOf_20 (fun c20 => ?_) (fun c20 => ?_)
      · skip
        have c20 := kB_f c20
        refine k_iinc (q := 3) (v := nI (i + 1)) (lv' := [(3, .int (nI (i + 1))), (0, .ref h), (1, .int b), (2, .int x)]) E rfl (nI_inc _) (by decide) rfl dX1_valueOf_31 ?_
        refine k_goto E (tgt := 4) (by decide) dX1_valueOf_34 ?_
        refine k_lv [1, 2, 3, 0] rfl ?_
        exact ih (i + 1) x (by omega) (by simp [sI, *])
      · skip
        have c20 := kB_t c20
        refine k_iload_n E 2 rfl rfl dX1_valueOf_23 ?_
        refine k_aload_n E 0 rfl rfl dX1_valueOf_24 ?_
        refine k_iload_n E 3 rfl rfl dX1_valueOf_25 ?_
        refine k_callRV [.int (nI i)] E (m_X1_valueOfSample l D k h a0 a1 a2 a3 a4 a5 a6 n farm amount mark place number paid blamed i (by first | assumption | omega)) cf_X1_valueOfSample q_494 [0, 1, 2, 3, 4, 5, 6, 7] rfl 0 rfl rfl rfl rfl ⟨by decide, by decide⟩ (Nat.le_of_ble_eq_true rfl) ⟨by decide, by decide⟩ dX1_valueOf_26 ?_
        refine k_iadd E dX1_valueOf_29 ?_
        refine k_istore_n (lv' := [(2, .int (x + (amount i * cents (mark i)))), (0, .ref h), (1, .int b), (3, .int (nI i))]) E rfl (by decide) rfl dX1_valueOf_30 ?_
        refine k_iinc (q := 3) (v := nI (i + 1)) (lv' := [(3, .int (nI (i + 1))), (2, .int (x + (amount i * cents (mark i)))), (0, .ref h), (1, .int b)]) E rfl (nI_inc _) (by decide) rfl dX1_valueOf_31 ?_
        refine k_goto E (tgt := 4) (by decide) dX1_valueOf_34 ?_
        refine k_lv [2, 3, 1, 0] rfl ?_
        exact ih (i + 1) (x + (amount i * cents (mark i))) (by omega) (by simp [sI, *])
  refine k_iconst E (v := 0) (by decide) dX1_valueOf_0 ?_
  refine k_istore_n (lv' := [(2, .int 0), (0, .ref h), (1, .int b)]) E rfl (by decide) rfl dX1_valueOf_1 ?_
  refine k_iconst E (v := 0) (by decide) dX1_valueOf_2 ?_
  refine k_istore_n (lv' := [(3, .int 0), (2, .int 0), (0, .ref h), (1, .int b)]) E rfl (by decide) rfl dX1_valueOf_3 ?_
  refine k_lv [2, 3, 1, 0] rfl ?_
  exact L4 (n - 0) 0 0 (by omega) rfl
set_option maxRecDepth 100000 in
set_option maxHeartbeats 4000000 in
theorem m_X1_payOfAll (l : Launch) (D : va_G) (k : Nat → ClassId) (h : Nat) (a0 : Nat) (a1 : Nat) (a2 : Nat) (a3 : Nat) (a4 : Nat) (a5 : Nat) (a6 : Nat) (n : Nat) (farm : Nat → Int32) (amount : Nat → Int32) (mark : Nat → Int32) (place : Nat → Int32) (number : Nat → Int32) (paid : Nat → Int32) (blamed : Nat → Int32) (b : Int32) (hn : n ≤ 100) : mR l yX1_payOfAll cX1_payOfAll 2 (some .int) 4 89 D (kTy k) [.ref h, .int b] (wSA k h a0 a1 a2 a3 a4 a5 a6 (nI n) farm amount mark place number paid blamed) (some (.int (payB mark place number amount b n))) := by
  refine mR.of (lv' := [(0, .ref h), (1, .int b)]) (by decide) (Nat.le_of_ble_eq_true rfl) rfl ?_
  intro p e s m args below meth c E hr hlk
  refine k_aload_n E 0 rfl rfl dX1_payOfAll_0 ?_
  refine k_iload_n E 1 rfl rfl dX1_payOfAll_1 ?_
  refine k_callRV [.int b] E (m_X1_isSpoilt l D k h a0 a1 a2 a3 a4 a5 a6 n farm amount mark place number paid blamed b (by first | assumption | omega)) cf_X1_isSpoilt q_486 [0, 1, 2, 3, 4, 5, 6, 7] rfl 0 rfl rfl rfl rfl ⟨by decide, by decide⟩ (Nat.le_of_ble_eq_true rfl) ⟨by decide, by decide⟩ dX1_payOfAll_2 ?_
  refine k_if_eq E (tgt := 12) (by decide) dX1_payOfAll_5 (fun c5 => ?_) (fun c5 => ?_)
  · skip
    have c5 := of_decide_eq_false (kB_f c5)
    refine k_aload_n E 0 rfl rfl dX1_payOfAll_12 ?_
    refine k_iload_n E 1 rfl rfl dX1_payOfAll_13 ?_
    refine k_callRV [.int b] E (m_X1_valueOf l D k h a0 a1 a2 a3 a4 a5 a6 n farm amount mark place number paid blamed b (by first | assumption | omega)) cf_X1_valueOf q_490 [0, 1, 2, 3, 4, 5, 6, 7] rfl 0 rfl rfl rfl rfl ⟨by decide, by decide⟩ (Nat.le_of_ble_eq_true rfl) ⟨by decide, by decide⟩ dX1_payOfAll_14 ?_
    exact kr_iret E hr hlk (by simp [payB, *]) dX1_payOfAll_17
  · skip
    have c5 := of_decide_eq_true (kB_t c5)
    refine k_iconst E (v := 0) (by decide) dX1_payOfAll_8 ?_
    refine k_goto E (tgt := 17) (by decide) dX1_payOfAll_9 ?_
    exact kr_iret E hr hlk (by simp [payB, *]) dX1_payOfAll_17
set_option maxRecDepth 100000 in
set_option maxHeartbeats 4000000 in
theorem m_X1_lossOf (l : Launch) (D : va_G) (k : Nat → ClassId) (h : Nat) (a0 : Nat) (a1 : Nat) (a2 : Nat) (a3 : Nat) (a4 : Nat) (a5 : Nat) (a6 : Nat) (n : Nat) (farm : Nat → Int32) (amount : Nat → Int32) (mark : Nat → Int32) (place : Nat → Int32) (number : Nat → Int32) (paid : Nat → Int32) (blamed : Nat → Int32) (b : Int32) (hn : n ≤ 100) : mR l yX1_lossOf cX1_lossOf 2 (some .int) 4 89 D (kTy k) [.ref h, .int b] (wSA k h a0 a1 a2 a3 a4 a5 a6 (nI n) farm amount mark place number paid blamed) (some (.int (lossB mark place number amount b n))) := by
  refine mR.of (lv' := [(0, .ref h), (1, .int b)]) (by decide) (Nat.le_of_ble_eq_true rfl) rfl ?_
  intro p e s m args below meth c E hr hlk
  refine k_aload_n E 0 rfl rfl dX1_lossOf_0 ?_
  refine k_iload_n E 1 rfl rfl dX1_lossOf_1 ?_
  refine k_callRV [.int b] E (m_X1_isSpoilt l D k h a0 a1 a2 a3 a4 a5 a6 n farm amount mark place number paid blamed b (by first | assumption | omega)) cf_X1_isSpoilt q_486 [0, 1, 2, 3, 4, 5, 6, 7] rfl 0 rfl rfl rfl rfl ⟨by decide, by decide⟩ (Nat.le_of_ble_eq_true rfl) ⟨by decide, by decide⟩ dX1_lossOf_2 ?_
  refine k_if_eq E (tgt := 16) (by decide) dX1_lossOf_5 (fun c5 => ?_) (fun c5 => ?_)
  · skip
    have c5 := of_decide_eq_false (kB_f c5)
    refine k_iconst E (v := 0) (by decide) dX1_lossOf_16 ?_
    exact kr_iret E hr hlk (by simp [lossB, *]) dX1_lossOf_17
  · skip
    have c5 := of_decide_eq_true (kB_t c5)
    refine k_aload_n E 0 rfl rfl dX1_lossOf_8 ?_
    refine k_iload_n E 1 rfl rfl dX1_lossOf_9 ?_
    refine k_callRV [.int b] E (m_X1_valueOf l D k h a0 a1 a2 a3 a4 a5 a6 n farm amount mark place number paid blamed b (by first | assumption | omega)) cf_X1_valueOf q_490 [0, 1, 2, 3, 4, 5, 6, 7] rfl 0 rfl rfl rfl rfl ⟨by decide, by decide⟩ (Nat.le_of_ble_eq_true rfl) ⟨by decide, by decide⟩ dX1_lossOf_10 ?_
    refine k_goto E (tgt := 17) (by decide) dX1_lossOf_13 ?_
    exact kr_iret E hr hlk (by simp [lossB, *]) dX1_lossOf_17
set_option maxRecDepth 100000 in
set_option maxHeartbeats 4000000 in
theorem m_X1_isGraded (l : Launch) (D : va_G) (k : Nat → ClassId) (h : Nat) (a0 : Nat) (a1 : Nat) (a2 : Nat) (a3 : Nat) (a4 : Nat) (a5 : Nat) (a6 : Nat) (n : Nat) (farm : Nat → Int32) (amount : Nat → Int32) (mark : Nat → Int32) (place : Nat → Int32) (number : Nat → Int32) (paid : Nat → Int32) (blamed : Nat → Int32) (b : Int32) (hn : n ≤ 100) : mR l yX1_isGraded cX1_isGraded 3 (some .boolean) 1 23 D (kTy k) [.ref h, .int b] (wSA k h a0 a1 a2 a3 a4 a5 a6 (nI n) farm amount mark place number paid blamed) (some (.int (kB (grB mark place number b n)))) := by
  refine mR.of (lv' := [(0, .ref h), (1, .int b)]) (by decide) (Nat.le_of_ble_eq_true rfl) rfl ?_
  intro p e s m args below meth c E hr hlk
  have L2 : ∀ (dn : Nat) (i : Nat), i + dn = n → (aB (cUn mark place number b) i = true) → kJ p l e (kRm 1 23) s m args below meth c (gR D s.heap) 3 0 0 (MQ below (kQr (some (.int (kB (grB mark place number b n))))) args s 0 0 (fun _ => False)) (wSA k h a0 a1 a2 a3 a4 a5 a6 (nI n) farm amount mark place number paid blamed) 2 [(0, .ref h), (1, .int b), (2, .int (nI i))] [] := by
    intro dn
    induction dn with
    | zero =>
      intro i hd hx
      refine k_iload_n E 2 rfl rfl dX1_isGraded_2 ?_
      refine k_aload_n E 0 rfl rfl dX1_isGraded_3 ?_
      refine k_get E inX1 0 rfl rfl 0 (by decide) q_59 rfl rfl dX1_isGraded_4 ?_
      refine k_icmp_ge E (tgt := 40) (by decide) dX1_isGraded_7 (fun c7 => ?_) (fun c7 => absurd ((not_congr (nI_leI (a := n) (b := i) (by omega) (by omega))).mp c7) (by omega))
      have c7 := (nI_leI (a := n) (b := i) (by omega) (by omega)).mp c7
      refine k_iconst E (v := 1) (by decide) dX1_isGraded_40 ?_
      exact kr_zret E hr hlk rfl (by rw [show grB mark place number b n = true from by rw [← hx, show i = n by omega]; rfl]; rfl) dX1_isGraded_41
    | succ dn ih =>
      intro i hd hx
      refine k_iload_n E 2 rfl rfl dX1_isGraded_2 ?_
      refine k_aload_n E 0 rfl rfl dX1_isGraded_3 ?_
      refine k_get E inX1 0 rfl rfl 0 (by decide) q_59 rfl rfl dX1_isGraded_4 ?_
      refine k_icmp_ge E (tgt := 40) (by decide) dX1_isGraded_7 (fun c7 => absurd ((nI_leI (a := n) (b := i) (by omega) (by omega)).mp c7) (by omega)) (fun c7 => ?_)
      have c7 := (not_congr (nI_leI (a := n) (b := i) (by omega) (by omega))).mp c7
      refine k_aload_n E 0 rfl rfl dX1_isGraded_10 ?_
      refine k_get E inX1 0 rfl rfl 3 (by decide) q_65 rfl rfl dX1_isGraded_11 ?_
      refine k_iload_n E 2 rfl rfl dX1_isGraded_14 ?_
      refine k_cald E (j := i) 3 1 rfl rfl rfl (by omega) (by decide) dX1_isGraded_15 ?_
      refine k_bipush E (v := 45) (by decide) dX1_isGraded_16 ?_
      refine k_icmp_ne E (tgt := 34) (by decide) dX1_isGraded_18 (fun c18 => ?_) (fun c18 => ?_)
      · skip
        refine k_iinc (q := 2) (v := nI (i + 1)) (lv' := [(2, .int (nI (i + 1))), (0, .ref h), (1, .int b)]) E rfl (nI_inc _) (by decide) rfl dX1_isGraded_34 ?_
        refine k_goto E (tgt := 2) (by decide) dX1_isGraded_37 ?_
        refine k_lv [1, 2, 0] rfl ?_
        exact ih (i + 1) (by omega) (by refine aB_t hx ?_; simp [cUn, *])
      · skip
        refine k_aload_n E 0 rfl rfl dX1_isGraded_21 ?_
        refine k_iload_n E 2 rfl rfl dX1_isGraded_22 ?_
        refine k_bipush E (v := 98) (by decide) dX1_isGraded_23 ?_
        refine k_iload_n E 1 rfl rfl dX1_isGraded_25 ?_
        refine k_callRV [.int (nI i), .int 98, .int b] E (m_X1_isIn l D k h a0 a1 a2 a3 a4 a5 a6 n farm amount mark place number paid blamed i 98 b (by first | assumption | omega)) cf_X1_isIn q_132 [0, 1, 2, 3, 4, 5, 6, 7] rfl 0 rfl rfl rfl rfl ⟨by decide, by decide⟩ (Nat.le_of_ble_eq_true rfl) ⟨by decide, by decide⟩ dX1_isGraded_26 ?_
        refine k_if_eq E (tgt := 34) (by decide) dX1_isGraded_29 (fun c29 => ?_) (fun c29 => ?_)
        · skip
          have c29 := kB_f c29
          refine k_iinc (q := 2) (v := nI (i + 1)) (lv' := [(2, .int (nI (i + 1))), (0, .ref h), (1, .int b)]) E rfl (nI_inc _) (by decide) rfl dX1_isGraded_34 ?_
          refine k_goto E (tgt := 2) (by decide) dX1_isGraded_37 ?_
          refine k_lv [1, 2, 0] rfl ?_
          exact ih (i + 1) (by omega) (by refine aB_t hx ?_; simp [cUn, *])
        · skip
          have c29 := kB_t c29
          refine k_iconst E (v := 0) (by decide) dX1_isGraded_32 ?_
          exact kr_zret E hr hlk rfl (by rw [show grB mark place number b n = false from aB_f (i := i) (by simp [cUn, *]) (by omega)]; rfl) dX1_isGraded_33
  refine k_iconst E (v := 0) (by decide) dX1_isGraded_0 ?_
  refine k_istore_n (lv' := [(2, .int 0), (0, .ref h), (1, .int b)]) E rfl (by decide) rfl dX1_isGraded_1 ?_
  refine k_lv [1, 2, 0] rfl ?_
  exact L2 (n - 0) 0 (by omega) rfl
set_option maxRecDepth 100000 in
set_option maxHeartbeats 4000000 in
theorem m_X1_shareAt (l : Launch) (D : va_G) (k : Nat → ClassId) (h : Nat) (a0 : Nat) (a1 : Nat) (a2 : Nat) (a3 : Nat) (a4 : Nat) (a5 : Nat) (a6 : Nat) (n : Nat) (farm : Nat → Int32) (amount : Nat → Int32) (mark : Nat → Int32) (place : Nat → Int32) (number : Nat → Int32) (paid : Nat → Int32) (blamed : Nat → Int32) (b : Int32) (ix : Int32) (hn : n ≤ 100) : mR l yX1_shareAt cX1_shareAt 5 (some .int) 1 23 D (kTy k) [.ref h, .int b, .int ix] (wSA k h a0 a1 a2 a3 a4 a5 a6 (nI n) farm amount mark place number paid blamed) (some (.int (sh (cIn place number 98 b) ix n))) := by
  refine mR.of (lv' := [(0, .ref h), (1, .int b), (2, .int ix)]) (by decide) (Nat.le_of_ble_eq_true rfl) rfl ?_
  intro p e s m args below meth c E hr hlk
  have L5 : ∀ (dn : Nat) (i : Nat) (x : Int32), i + dn = n → (x = sI (cIn place number 98 b) (fun _ => 1) i) → (sh (cIn place number 98 b) ix i = -1) → kJ p l e (kRm 1 23) s m args below meth c (gR D s.heap) 5 0 0 (MQ below (kQr (some (.int (sh (cIn place number 98 b) ix n)))) args s 0 0 (fun _ => False)) (wSA k h a0 a1 a2 a3 a4 a5 a6 (nI n) farm amount mark place number paid blamed) 5 [(0, .ref h), (1, .int b), (2, .int ix), (3, .int x), (4, .int (nI i))] [] := by
    intro dn
    induction dn with
    | zero =>
      intro i x hd hx hs
      refine k_iload E 4 rfl dX1_shareAt_5 ?_
      refine k_aload_n E 0 rfl rfl dX1_shareAt_7 ?_
      refine k_get E inX1 0 rfl rfl 0 (by decide) q_59 rfl rfl dX1_shareAt_8 ?_
      refine k_icmp_ge E (tgt := 43) (by decide) dX1_shareAt_11 (fun c11 => ?_) (fun c11 => absurd ((not_congr (nI_leI (a := n) (b := i) (by omega) (by omega))).mp c11) (by omega))
      have c11 := (nI_leI (a := n) (b := i) (by omega) (by omega)).mp c11
      refine k_iconst E (v := (-1)) (by decide) dX1_shareAt_43 ?_
      exact kr_iret E hr hlk (by rw [show n = i by omega, hs]) dX1_shareAt_44
    | succ dn ih =>
      intro i x hd hx hs
      refine k_iload E 4 rfl dX1_shareAt_5 ?_
      refine k_aload_n E 0 rfl rfl dX1_shareAt_7 ?_
      refine k_get E inX1 0 rfl rfl 0 (by decide) q_59 rfl rfl dX1_shareAt_8 ?_
      refine k_icmp_ge E (tgt := 43) (by decide) dX1_shareAt_11 (fun c11 => absurd ((nI_leI (a := n) (b := i) (by omega) (by omega)).mp c11) (by omega)) (fun c11 => ?_)
      have c11 := (not_congr (nI_leI (a := n) (b := i) (by omega) (by omega))).mp c11
      refine k_aload_n E 0 rfl rfl dX1_shareAt_14 ?_
      refine k_iload E 4 rfl dX1_shareAt_15 ?_
      refine k_bipush E (v := 98) (by decide) dX1_shareAt_17 ?_
      refine k_iload_n E 1 rfl rfl dX1_shareAt_19 ?_
      refine k_callRV [.int (nI i), .int 98, .int b] E (m_X1_isIn l D k h a0 a1 a2 a3 a4 a5 a6 n farm amount mark place number paid blamed i 98 b (by first | assumption | omega)) cf_X1_isIn q_132 [0, 1, 2, 3, 4, 5, 6, 7] rfl 0 rfl rfl rfl rfl ⟨by decide, by decide⟩ (Nat.le_of_ble_eq_true rfl) ⟨by decide, by decide⟩ dX1_shareAt_20 ?_
      refine k_if_eq E (tgt := 37) (by decide) dX1_shareAt_23 (fun c23 => ?_) (fun c23 => ?_)
      · skip
        have c23 := kB_f c23
        refine k_iinc (q := 4) (v := nI (i + 1)) (lv' := [(4, .int (nI (i + 1))), (0, .ref h), (1, .int b), (2, .int ix), (3, .int x)]) E rfl (nI_inc _) (by decide) rfl dX1_shareAt_37 ?_
        refine k_goto E (tgt := 5) (by decide) dX1_shareAt_40 ?_
        refine k_lv [1, 2, 3, 4, 0] rfl ?_
        exact ih (i + 1) x (by omega) (by simp [sI, *]) (by refine sh_n hs (fun q => ?_); first | (exact c28 (by rw [hx]; exact q.2)) | (rw [q.1] at c23; cases c23))
      · skip
        have c23 := kB_t c23
        refine k_iload_n E 3 rfl rfl dX1_shareAt_26 ?_
        refine k_iload_n E 2 rfl rfl dX1_shareAt_27 ?_
        refine k_icmp_ne E (tgt := 34) (by decide) dX1_shareAt_28 (fun c28 => ?_) (fun c28 => ?_)
        · skip
          refine k_iinc (q := 3) (v := x + 1) (lv' := [(3, .int (x + 1)), (0, .ref h), (1, .int b), (2, .int ix), (4, .int (nI i))]) E rfl rfl (by decide) rfl dX1_shareAt_34 ?_
          refine k_iinc (q := 4) (v := nI (i + 1)) (lv' := [(4, .int (nI (i + 1))), (3, .int (x + 1)), (0, .ref h), (1, .int b), (2, .int ix)]) E rfl (nI_inc _) (by decide) rfl dX1_shareAt_37 ?_
          refine k_goto E (tgt := 5) (by decide) dX1_shareAt_40 ?_
          refine k_lv [2, 3, 4, 1, 0] rfl ?_
          exact ih (i + 1) (x + 1) (by omega) (by simp [sI, *]) (by refine sh_n hs (fun q => ?_); first | (exact c28 (by rw [hx]; exact q.2)) | (rw [q.1] at c23; cases c23))
        · skip
          refine k_iload E 4 rfl dX1_shareAt_31 ?_
          exact kr_iret E hr hlk (by rw [sh_lt (i := i) (by omega) hs c23 (by rw [← hx]; exact c28) (by omega)]) dX1_shareAt_33
  refine k_iconst E (v := 0) (by decide) dX1_shareAt_0 ?_
  refine k_istore_n (lv' := [(3, .int 0), (0, .ref h), (1, .int b), (2, .int ix)]) E rfl (by decide) rfl dX1_shareAt_1 ?_
  refine k_iconst E (v := 0) (by decide) dX1_shareAt_2 ?_
  refine k_istore (lv' := [(4, .int 0), (3, .int 0), (0, .ref h), (1, .int b), (2, .int ix)]) E (by decide) rfl dX1_shareAt_3 ?_
  refine k_lv [2, 3, 4, 1, 0] rfl ?_
  exact L5 (n - 0) 0 0 (by omega) rfl rfl
set_option maxRecDepth 100000 in
set_option maxHeartbeats 4000000 in
theorem m_X1_paidTo (l : Launch) (D : va_G) (k : Nat → ClassId) (h : Nat) (a0 : Nat) (a1 : Nat) (a2 : Nat) (a3 : Nat) (a4 : Nat) (a5 : Nat) (a6 : Nat) (n : Nat) (farm : Nat → Int32) (amount : Nat → Int32) (mark : Nat → Int32) (place : Nat → Int32) (number : Nat → Int32) (paid : Nat → Int32) (blamed : Nat → Int32) (fa : Int32) (b : Int32) (hn : n ≤ 100) : mR l yX1_paidTo cX1_paidTo 5 (some .int) 1 23 D (kTy k) [.ref h, .int fa, .int b] (wSA k h a0 a1 a2 a3 a4 a5 a6 (nI n) farm amount mark place number paid blamed) (some (.int (sI (fun j => decide (farm j = fa) && cIn place number 98 b j) paid n))) := by
  refine mR.of (lv' := [(0, .ref h), (1, .int fa), (2, .int b)]) (by decide) (Nat.le_of_ble_eq_true rfl) rfl ?_
  intro p e s m args below meth c E hr hlk
  have L5 : ∀ (dn : Nat) (i : Nat) (x : Int32), i + dn = n → (x = sI (fun j => decide (farm j = fa) && cIn place number 98 b j) paid i) → kJ p l e (kRm 1 23) s m args below meth c (gR D s.heap) 5 0 0 (MQ below (kQr (some (.int (sI (fun j => decide (farm j = fa) && cIn place number 98 b j) paid n)))) args s 0 0 (fun _ => False)) (wSA k h a0 a1 a2 a3 a4 a5 a6 (nI n) farm amount mark place number paid blamed) 5 [(0, .ref h), (1, .int fa), (2, .int b), (3, .int x), (4, .int (nI i))] [] := by
    intro dn
    induction dn with
    | zero =>
      intro i x hd hx
      refine k_iload E 4 rfl dX1_paidTo_5 ?_
      refine k_aload_n E 0 rfl rfl dX1_paidTo_7 ?_
      refine k_get E inX1 0 rfl rfl 0 (by decide) q_59 rfl rfl dX1_paidTo_8 ?_
      refine k_icmp_ge E (tgt := 53) (by decide) dX1_paidTo_11 (fun c11 => ?_) (fun c11 => absurd ((not_congr (nI_leI (a := n) (b := i) (by omega) (by omega))).mp c11) (by omega))
      have c11 := (nI_leI (a := n) (b := i) (by omega) (by omega)).mp c11
      refine k_iload_n E 3 rfl rfl dX1_paidTo_53 ?_
      exact kr_iret E hr hlk (by rw [hx, show i = n by omega]) dX1_paidTo_54
    | succ dn ih =>
      intro i x hd hx
      refine k_iload E 4 rfl dX1_paidTo_5 ?_
      refine k_aload_n E 0 rfl rfl dX1_paidTo_7 ?_
      refine k_get E inX1 0 rfl rfl 0 (by decide) q_59 rfl rfl dX1_paidTo_8 ?_
      refine k_icmp_ge E (tgt := 53) (by decide) dX1_paidTo_11 (fun c11 => absurd ((nI_leI (a := n) (b := i) (by omega) (by omega)).mp c11) (by omega)) (fun c11 => ?_)
      have c11 := (not_congr (nI_leI (a := n) (b := i) (by omega) (by omega))).mp c11
      refine k_aload_n E 0 rfl rfl dX1_paidTo_14 ?_
      refine k_get E inX1 0 rfl rfl 1 (by decide) q_61 rfl rfl dX1_paidTo_15 ?_
      refine k_iload E 4 rfl dX1_paidTo_18 ?_
      refine k_iald E (j := i) 1 0 rfl rfl rfl (by omega) (by decide) dX1_paidTo_20 ?_
      refine k_iload_n E 1 rfl rfl dX1_paidTo_21 ?_
      refine k_icmp_ne E (tgt := 47) (by decide) dX1_paidTo_22 (fun c22 => ?_) (fun c22 => ?_)
      · skip
        refine k_iinc (q := 4) (v := nI (i + 1)) (lv' := [(4, .int (nI (i + 1))), (0, .ref h), (1, .int fa), (2, .int b), (3, .int x)]) E rfl (nI_inc _) (by decide) rfl dX1_paidTo_47 ?_
        refine k_goto E (tgt := 5) (by decide) dX1_paidTo_50 ?_
        refine k_lv [1, 2, 3, 4, 0] rfl ?_
        exact ih (i + 1) x (by omega) (by simp [sI, *])
      · skip
        refine k_aload_n E 0 rfl rfl dX1_paidTo_25 ?_
        refine k_iload E 4 rfl dX1_paidTo_26 ?_
        refine k_bipush E (v := 98) (by decide) dX1_paidTo_28 ?_
        refine k_iload_n E 2 rfl rfl dX1_paidTo_30 ?_
        refine k_callRV [.int (nI i), .int 98, .int b] E (m_X1_isIn l D k h a0 a1 a2 a3 a4 a5 a6 n farm amount mark place number paid blamed i 98 b (by first | assumption | omega)) cf_X1_isIn q_132 [0, 1, 2, 3, 4, 5, 6, 7] rfl 0 rfl rfl rfl rfl ⟨by decide, by decide⟩ (Nat.le_of_ble_eq_true rfl) ⟨by decide, by decide⟩ dX1_paidTo_31 ?_
        refine k_if_eq E (tgt := 47) (by decide) dX1_paidTo_34 (fun c34 => ?_) (fun c34 => ?_)
        · skip
          have c34 := kB_f c34
          refine k_iinc (q := 4) (v := nI (i + 1)) (lv' := [(4, .int (nI (i + 1))), (0, .ref h), (1, .int fa), (2, .int b), (3, .int x)]) E rfl (nI_inc _) (by decide) rfl dX1_paidTo_47 ?_
          refine k_goto E (tgt := 5) (by decide) dX1_paidTo_50 ?_
          refine k_lv [1, 2, 3, 4, 0] rfl ?_
          exact ih (i + 1) x (by omega) (by simp [sI, *])
        · skip
          have c34 := kB_t c34
          refine k_iload_n E 3 rfl rfl dX1_paidTo_37 ?_
          refine k_aload_n E 0 rfl rfl dX1_paidTo_38 ?_
          refine k_get E inX1 0 rfl rfl 6 (by decide) q_71 rfl rfl dX1_paidTo_39 ?_
          refine k_iload E 4 rfl dX1_paidTo_42 ?_
          refine k_iald E (j := i) 6 0 rfl rfl rfl (by omega) (by decide) dX1_paidTo_44 ?_
          refine k_iadd E dX1_paidTo_45 ?_
          refine k_istore_n (lv' := [(3, .int (x + (paid i))), (0, .ref h), (1, .int fa), (2, .int b), (4, .int (nI i))]) E rfl (by decide) rfl dX1_paidTo_46 ?_
          refine k_iinc (q := 4) (v := nI (i + 1)) (lv' := [(4, .int (nI (i + 1))), (3, .int (x + (paid i))), (0, .ref h), (1, .int fa), (2, .int b)]) E rfl (nI_inc _) (by decide) rfl dX1_paidTo_47 ?_
          refine k_goto E (tgt := 5) (by decide) dX1_paidTo_50 ?_
          refine k_lv [2, 3, 4, 1, 0] rfl ?_
          exact ih (i + 1) (x + (paid i)) (by omega) (by simp [sI, *])
  refine k_iconst E (v := 0) (by decide) dX1_paidTo_0 ?_
  refine k_istore_n (lv' := [(3, .int 0), (0, .ref h), (1, .int fa), (2, .int b)]) E rfl (by decide) rfl dX1_paidTo_1 ?_
  refine k_iconst E (v := 0) (by decide) dX1_paidTo_2 ?_
  refine k_istore (lv' := [(4, .int 0), (3, .int 0), (0, .ref h), (1, .int fa), (2, .int b)]) E (by decide) rfl dX1_paidTo_3 ?_
  refine k_lv [2, 3, 4, 1, 0] rfl ?_
  exact L5 (n - 0) 0 0 (by omega) rfl
set_option maxRecDepth 100000 in
set_option maxHeartbeats 4000000 in
theorem m_X1_blamedOn (l : Launch) (D : va_G) (k : Nat → ClassId) (h : Nat) (a0 : Nat) (a1 : Nat) (a2 : Nat) (a3 : Nat) (a4 : Nat) (a5 : Nat) (a6 : Nat) (n : Nat) (farm : Nat → Int32) (amount : Nat → Int32) (mark : Nat → Int32) (place : Nat → Int32) (number : Nat → Int32) (paid : Nat → Int32) (blamed : Nat → Int32) (fa : Int32) (b : Int32) (hn : n ≤ 100) : mR l yX1_blamedOn cX1_blamedOn 5 (some .int) 1 23 D (kTy k) [.ref h, .int fa, .int b] (wSA k h a0 a1 a2 a3 a4 a5 a6 (nI n) farm amount mark place number paid blamed) (some (.int (sI (fun j => decide (farm j = fa) && cIn place number 98 b j) blamed n))) := by
  refine mR.of (lv' := [(0, .ref h), (1, .int fa), (2, .int b)]) (by decide) (Nat.le_of_ble_eq_true rfl) rfl ?_
  intro p e s m args below meth c E hr hlk
  have L5 : ∀ (dn : Nat) (i : Nat) (x : Int32), i + dn = n → (x = sI (fun j => decide (farm j = fa) && cIn place number 98 b j) blamed i) → kJ p l e (kRm 1 23) s m args below meth c (gR D s.heap) 5 0 0 (MQ below (kQr (some (.int (sI (fun j => decide (farm j = fa) && cIn place number 98 b j) blamed n)))) args s 0 0 (fun _ => False)) (wSA k h a0 a1 a2 a3 a4 a5 a6 (nI n) farm amount mark place number paid blamed) 5 [(0, .ref h), (1, .int fa), (2, .int b), (3, .int x), (4, .int (nI i))] [] := by
    intro dn
    induction dn with
    | zero =>
      intro i x hd hx
      refine k_iload E 4 rfl dX1_blamedOn_5 ?_
      refine k_aload_n E 0 rfl rfl dX1_blamedOn_7 ?_
      refine k_get E inX1 0 rfl rfl 0 (by decide) q_59 rfl rfl dX1_blamedOn_8 ?_
      refine k_icmp_ge E (tgt := 53) (by decide) dX1_blamedOn_11 (fun c11 => ?_) (fun c11 => absurd ((not_congr (nI_leI (a := n) (b := i) (by omega) (by omega))).mp c11) (by omega))
      have c11 := (nI_leI (a := n) (b := i) (by omega) (by omega)).mp c11
      refine k_iload_n E 3 rfl rfl dX1_blamedOn_53 ?_
      exact kr_iret E hr hlk (by rw [hx, show i = n by omega]) dX1_blamedOn_54
    | succ dn ih =>
      intro i x hd hx
      refine k_iload E 4 rfl dX1_blamedOn_5 ?_
      refine k_aload_n E 0 rfl rfl dX1_blamedOn_7 ?_
      refine k_get E inX1 0 rfl rfl 0 (by decide) q_59 rfl rfl dX1_blamedOn_8 ?_
      refine k_icmp_ge E (tgt := 53) (by decide) dX1_blamedOn_11 (fun c11 => absurd ((nI_leI (a := n) (b := i) (by omega) (by omega)).mp c11) (by omega)) (fun c11 => ?_)
      have c11 := (not_congr (nI_leI (a := n) (b := i) (by omega) (by omega))).mp c11
      refine k_aload_n E 0 rfl rfl dX1_blamedOn_14 ?_
      refine k_get E inX1 0 rfl rfl 1 (by decide) q_61 rfl rfl dX1_blamedOn_15 ?_
      refine k_iload E 4 rfl dX1_blamedOn_18 ?_
      refine k_iald E (j := i) 1 0 rfl rfl rfl (by omega) (by decide) dX1_blamedOn_20 ?_
      refine k_iload_n E 1 rfl rfl dX1_blamedOn_21 ?_
      refine k_icmp_ne E (tgt := 47) (by decide) dX1_blamedOn_22 (fun c22 => ?_) (fun c22 => ?_)
      · skip
        refine k_iinc (q := 4) (v := nI (i + 1)) (lv' := [(4, .int (nI (i + 1))), (0, .ref h), (1, .int fa), (2, .int b), (3, .int x)]) E rfl (nI_inc _) (by decide) rfl dX1_blamedOn_47 ?_
        refine k_goto E (tgt := 5) (by decide) dX1_blamedOn_50 ?_
        refine k_lv [1, 2, 3, 4, 0] rfl ?_
        exact ih (i + 1) x (by omega) (by simp [sI, *])
      · skip
        refine k_aload_n E 0 rfl rfl dX1_blamedOn_25 ?_
        refine k_iload E 4 rfl dX1_blamedOn_26 ?_
        refine k_bipush E (v := 98) (by decide) dX1_blamedOn_28 ?_
        refine k_iload_n E 2 rfl rfl dX1_blamedOn_30 ?_
        refine k_callRV [.int (nI i), .int 98, .int b] E (m_X1_isIn l D k h a0 a1 a2 a3 a4 a5 a6 n farm amount mark place number paid blamed i 98 b (by first | assumption | omega)) cf_X1_isIn q_132 [0, 1, 2, 3, 4, 5, 6, 7] rfl 0 rfl rfl rfl rfl ⟨by decide, by decide⟩ (Nat.le_of_ble_eq_true rfl) ⟨by decide, by decide⟩ dX1_blamedOn_31 ?_
        refine k_if_eq E (tgt := 47) (by decide) dX1_blamedOn_34 (fun c34 => ?_) (fun c34 => ?_)
        · skip
          have c34 := kB_f c34
          refine k_iinc (q := 4) (v := nI (i + 1)) (lv' := [(4, .int (nI (i + 1))), (0, .ref h), (1, .int fa), (2, .int b), (3, .int x)]) E rfl (nI_inc _) (by decide) rfl dX1_blamedOn_47 ?_
          refine k_goto E (tgt := 5) (by decide) dX1_blamedOn_50 ?_
          refine k_lv [1, 2, 3, 4, 0] rfl ?_
          exact ih (i + 1) x (by omega) (by simp [sI, *])
        · skip
          have c34 := kB_t c34
          refine k_iload_n E 3 rfl rfl dX1_blamedOn_37 ?_
          refine k_aload_n E 0 rfl rfl dX1_blamedOn_38 ?_
          refine k_get E inX1 0 rfl rfl 7 (by decide) q_72 rfl rfl dX1_blamedOn_39 ?_
          refine k_iload E 4 rfl dX1_blamedOn_42 ?_
          refine k_iald E (j := i) 7 0 rfl rfl rfl (by omega) (by decide) dX1_blamedOn_44 ?_
          refine k_iadd E dX1_blamedOn_45 ?_
          refine k_istore_n (lv' := [(3, .int (x + (blamed i))), (0, .ref h), (1, .int fa), (2, .int b), (4, .int (nI i))]) E rfl (by decide) rfl dX1_blamedOn_46 ?_
          refine k_iinc (q := 4) (v := nI (i + 1)) (lv' := [(4, .int (nI (i + 1))), (3, .int (x + (blamed i))), (0, .ref h), (1, .int fa), (2, .int b)]) E rfl (nI_inc _) (by decide) rfl dX1_blamedOn_47 ?_
          refine k_goto E (tgt := 5) (by decide) dX1_blamedOn_50 ?_
          refine k_lv [2, 3, 4, 1, 0] rfl ?_
          exact ih (i + 1) (x + (blamed i)) (by omega) (by simp [sI, *])
  refine k_iconst E (v := 0) (by decide) dX1_blamedOn_0 ?_
  refine k_istore_n (lv' := [(3, .int 0), (0, .ref h), (1, .int fa), (2, .int b)]) E rfl (by decide) rfl dX1_blamedOn_1 ?_
  refine k_iconst E (v := 0) (by decide) dX1_blamedOn_2 ?_
  refine k_istore (lv' := [(4, .int 0), (3, .int 0), (0, .ref h), (1, .int fa), (2, .int b)]) E (by decide) rfl dX1_blamedOn_3 ?_
  refine k_lv [2, 3, 4, 1, 0] rfl ?_
  exact L5 (n - 0) 0 0 (by omega) rfl
set_option maxRecDepth 100000 in
set_option maxHeartbeats 4000000 in
theorem m_X1_balanceOf (l : Launch) (D : va_G) (k : Nat → ClassId) (h : Nat) (a0 : Nat) (a1 : Nat) (a2 : Nat) (a3 : Nat) (a4 : Nat) (a5 : Nat) (a6 : Nat) (n : Nat) (farm : Nat → Int32) (amount : Nat → Int32) (mark : Nat → Int32) (place : Nat → Int32) (number : Nat → Int32) (paid : Nat → Int32) (blamed : Nat → Int32) (fa : Int32) (hn : n ≤ 100) : mR l yX1_balanceOf cX1_balanceOf 5 (some .long) 0 0 D (kTy k) [.ref h, .int fa] (wSA k h a0 a1 a2 a3 a4 a5 a6 (nI n) farm amount mark place number paid blamed) (some (.long (sL (fun j => decide (farm j = fa)) (fun j => (paid j - blamed j).toInt64) n))) := by
  refine mR.of (lv' := [(0, .ref h), (1, .int fa)]) (by decide) (Nat.le_of_ble_eq_true rfl) rfl ?_
  intro p e s m args below meth c E hr hlk
  have L5 : ∀ (dn : Nat) (i : Nat) (x : Int64), i + dn = n → (x = sL (fun j => decide (farm j = fa)) (fun j => (paid j - blamed j).toInt64) i) → kJ p l e (kRm 0 0) s m args below meth c (gR D s.heap) 5 0 0 (MQ below (kQr (some (.long (sL (fun j => decide (farm j = fa)) (fun j => (paid j - blamed j).toInt64) n)))) args s 0 0 (fun _ => False)) (wSA k h a0 a1 a2 a3 a4 a5 a6 (nI n) farm amount mark place number paid blamed) 5 [(0, .ref h), (1, .int fa), (2, .long x), (4, .int (nI i))] [] := by
    intro dn
    induction dn with
    | zero =>
      intro i x hd hx
      refine k_iload E 3 rfl dX1_balanceOf_5 ?_
      refine k_aload_n E 0 rfl rfl dX1_balanceOf_7 ?_
      refine k_get E inX1 0 rfl rfl 0 (by decide) q_59 rfl rfl dX1_balanceOf_8 ?_
      refine k_icmp_ge E (tgt := 50) (by decide) dX1_balanceOf_11 (fun c11 => ?_) (fun c11 => absurd ((not_congr (nI_leI (a := n) (b := i) (by omega) (by omega))).mp c11) (by omega))
      have c11 := (nI_leI (a := n) (b := i) (by omega) (by omega)).mp c11
      refine k_lload_n E 2 rfl rfl dX1_balanceOf_50 ?_
      exact kr_lret E hr hlk (by rw [hx, show i = n by omega]) dX1_balanceOf_51
    | succ dn ih =>
      intro i x hd hx
      refine k_iload E 3 rfl dX1_balanceOf_5 ?_
      refine k_aload_n E 0 rfl rfl dX1_balanceOf_7 ?_
      refine k_get E inX1 0 rfl rfl 0 (by decide) q_59 rfl rfl dX1_balanceOf_8 ?_
      refine k_icmp_ge E (tgt := 50) (by decide) dX1_balanceOf_11 (fun c11 => absurd ((nI_leI (a := n) (b := i) (by omega) (by omega)).mp c11) (by omega)) (fun c11 => ?_)
      have c11 := (not_congr (nI_leI (a := n) (b := i) (by omega) (by omega))).mp c11
      refine k_aload_n E 0 rfl rfl dX1_balanceOf_14 ?_
      refine k_get E inX1 0 rfl rfl 1 (by decide) q_61 rfl rfl dX1_balanceOf_15 ?_
      refine k_iload E 3 rfl dX1_balanceOf_18 ?_
      refine k_iald E (j := i) 1 0 rfl rfl rfl (by omega) (by decide) dX1_balanceOf_20 ?_
      refine k_iload_n E 1 rfl rfl dX1_balanceOf_21 ?_
      refine k_icmp_ne E (tgt := 44) (by decide) dX1_balanceOf_22 (fun c22 => ?_) (fun c22 => ?_)
      · skip
        refine k_iinc (q := 3) (v := nI (i + 1)) (lv' := [(4, .int (nI (i + 1))), (0, .ref h), (1, .int fa), (2, .long x)]) E rfl (nI_inc _) (by decide) rfl dX1_balanceOf_44 ?_
        refine k_goto E (tgt := 5) (by decide) dX1_balanceOf_47 ?_
        refine k_lv [1, 2, 3, 0] rfl ?_
        exact ih (i + 1) x (by omega) (by simp [sL, *])
      · skip
        refine k_lload_n E 2 rfl rfl dX1_balanceOf_25 ?_
        refine k_aload_n E 0 rfl rfl dX1_balanceOf_26 ?_
        refine k_get E inX1 0 rfl rfl 6 (by decide) q_71 rfl rfl dX1_balanceOf_27 ?_
        refine k_iload E 3 rfl dX1_balanceOf_30 ?_
        refine k_iald E (j := i) 6 0 rfl rfl rfl (by omega) (by decide) dX1_balanceOf_32 ?_
        refine k_aload_n E 0 rfl rfl dX1_balanceOf_33 ?_
        refine k_get E inX1 0 rfl rfl 7 (by decide) q_72 rfl rfl dX1_balanceOf_34 ?_
        refine k_iload E 3 rfl dX1_balanceOf_37 ?_
        refine k_iald E (j := i) 7 0 rfl rfl rfl (by omega) (by decide) dX1_balanceOf_39 ?_
        refine k_isub E dX1_balanceOf_40 ?_
        refine k_i2l E (v := ((paid i) - (blamed i)).toInt64) rfl dX1_balanceOf_41 ?_
        refine k_ladd E dX1_balanceOf_42 ?_
        refine k_lstore_n (lv' := [(2, .long (x + (((paid i) - (blamed i)).toInt64))), (0, .ref h), (1, .int fa), (4, .int (nI i))]) E rfl (by decide) rfl dX1_balanceOf_43 ?_
        refine k_iinc (q := 3) (v := nI (i + 1)) (lv' := [(4, .int (nI (i + 1))), (2, .long (x + (((paid i) - (blamed i)).toInt64))), (0, .ref h), (1, .int fa)]) E rfl (nI_inc _) (by decide) rfl dX1_balanceOf_44 ?_
        refine k_goto E (tgt := 5) (by decide) dX1_balanceOf_47 ?_
        refine k_lv [2, 3, 1, 0] rfl ?_
        exact ih (i + 1) (x + (((paid i) - (blamed i)).toInt64)) (by omega) (by simp [sL, *])
  refine k_lconst E (v := 0) (by decide) dX1_balanceOf_0 ?_
  refine k_lstore_n (lv' := [(2, .long 0), (0, .ref h), (1, .int fa)]) E rfl (by decide) rfl dX1_balanceOf_1 ?_
  refine k_iconst E (v := 0) (by decide) dX1_balanceOf_2 ?_
  refine k_istore (lv' := [(4, .int 0), (2, .long 0), (0, .ref h), (1, .int fa)]) E (by decide) rfl dX1_balanceOf_3 ?_
  refine k_lv [2, 3, 1, 0] rfl ?_
  exact L5 (n - 0) 0 0 (by omega) rfl
set_option maxRecDepth 100000 in
set_option maxHeartbeats 4000000 in
theorem m_X1_add (l : Launch) (D : va_G) (k : Nat → ClassId) (h : Nat) (a0 : Nat) (a1 : Nat) (a2 : Nat) (a3 : Nat) (a4 : Nat) (a5 : Nat) (a6 : Nat) (n : Nat) (farm : Nat → Int32) (amount : Nat → Int32) (mark : Nat → Int32) (place : Nat → Int32) (number : Nat → Int32) (paid : Nat → Int32) (blamed : Nat → Int32) (fa : Int32) (li : Int32) (hn : n < 100) : mW l yX1_add cX1_add 3 none 0 0 0 0 D (kTy k) [.ref h, .int fa, .int li] (wSA k h a0 a1 a2 a3 a4 a5 a6 (nI n) farm amount mark place number paid blamed) none (wSA k h a0 a1 a2 a3 a4 a5 a6 (nI (n + 1)) (upd farm n fa) (upd amount n li) (upd mark n 45) (upd place n 116) (upd number n 0) paid blamed) := by
  refine mW.of (lv' := [(0, .ref h), (1, .int fa), (2, .int li)]) (by decide) (Nat.le_of_ble_eq_true rfl) rfl ?_
  intro p e s m args below meth c E hr hlk hm hA
  refine k_aload_n E 0 rfl rfl dX1_add_0 ?_
  refine k_get E inX1 0 rfl rfl 1 (by decide) q_61 rfl rfl dX1_add_1 ?_
  refine k_aload_n E 0 rfl rfl dX1_add_4 ?_
  refine k_get E inX1 0 rfl rfl 0 (by decide) q_59 rfl rfl dX1_add_5 ?_
  refine k_iload_n E 1 rfl rfl dX1_add_8 ?_
  refine k_iast (y := fa) (j := n) (ws' := (wSA k h a0 a1 a2 a3 a4 a5 a6 (nI n) (upd farm n fa) amount mark place number paid blamed)) E 1 0 rfl rfl rfl (by omega) (by decide) rfl rfl dX1_add_9 ?_
  refine k_aload_n E 0 rfl rfl dX1_add_10 ?_
  refine k_get E inX1 0 rfl rfl 2 (by decide) q_63 rfl rfl dX1_add_11 ?_
  refine k_aload_n E 0 rfl rfl dX1_add_14 ?_
  refine k_get E inX1 0 rfl rfl 0 (by decide) q_59 rfl rfl dX1_add_15 ?_
  refine k_iload_n E 2 rfl rfl dX1_add_18 ?_
  refine k_iast (y := li) (j := n) (ws' := (wSA k h a0 a1 a2 a3 a4 a5 a6 (nI n) (upd farm n fa) (upd amount n li) mark place number paid blamed)) E 2 0 rfl rfl rfl (by omega) (by decide) rfl rfl dX1_add_19 ?_
  refine k_aload_n E 0 rfl rfl dX1_add_20 ?_
  refine k_get E inX1 0 rfl rfl 3 (by decide) q_65 rfl rfl dX1_add_21 ?_
  refine k_aload_n E 0 rfl rfl dX1_add_24 ?_
  refine k_get E inX1 0 rfl rfl 0 (by decide) q_59 rfl rfl dX1_add_25 ?_
  refine k_bipush E (v := 45) (by decide) dX1_add_28 ?_
  refine k_cast (y := 45) (j := n) (ws' := (wSA k h a0 a1 a2 a3 a4 a5 a6 (nI n) (upd farm n fa) (upd amount n li) (upd mark n 45) place number paid blamed)) E 3 1 rfl rfl rfl (by omega) (by decide) (by decide) rfl dX1_add_30 ?_
  refine k_aload_n E 0 rfl rfl dX1_add_31 ?_
  refine k_get E inX1 0 rfl rfl 4 (by decide) q_67 rfl rfl dX1_add_32 ?_
  refine k_aload_n E 0 rfl rfl dX1_add_35 ?_
  refine k_get E inX1 0 rfl rfl 0 (by decide) q_59 rfl rfl dX1_add_36 ?_
  refine k_bipush E (v := 116) (by decide) dX1_add_39 ?_
  refine k_cast (y := 116) (j := n) (ws' := (wSA k h a0 a1 a2 a3 a4 a5 a6 (nI n) (upd farm n fa) (upd amount n li) (upd mark n 45) (upd place n 116) number paid blamed)) E 4 1 rfl rfl rfl (by omega) (by decide) (by decide) rfl dX1_add_41 ?_
  refine k_aload_n E 0 rfl rfl dX1_add_42 ?_
  refine k_get E inX1 0 rfl rfl 5 (by decide) q_69 rfl rfl dX1_add_43 ?_
  refine k_aload_n E 0 rfl rfl dX1_add_46 ?_
  refine k_get E inX1 0 rfl rfl 0 (by decide) q_59 rfl rfl dX1_add_47 ?_
  refine k_iconst E (v := 0) (by decide) dX1_add_50 ?_
  refine k_iast (y := 0) (j := n) (ws' := (wSA k h a0 a1 a2 a3 a4 a5 a6 (nI n) (upd farm n fa) (upd amount n li) (upd mark n 45) (upd place n 116) (upd number n 0) paid blamed)) E 5 0 rfl rfl rfl (by omega) (by decide) rfl rfl dX1_add_51 ?_
  refine k_aload_n E 0 rfl rfl dX1_add_52 ?_
  refine k_dup E rfl dX1_add_53 ?_
  refine k_get E inX1 0 rfl rfl 0 (by decide) q_59 rfl rfl dX1_add_54 ?_
  refine k_iconst E (v := 1) (by decide) dX1_add_57 ?_
  refine k_iadd E dX1_add_58 ?_
  refine k_steq (st' := [.int (nI (n + 1)), .ref h]) (by rw [show (nI n) + 1 = nI (n + 1) from nI_1 n]) ?_
  refine k_put (ws' := (wSA k h a0 a1 a2 a3 a4 a5 a6 (nI (n + 1)) (upd farm n fa) (upd amount n li) (upd mark n 45) (upd place n 116) (upd number n 0) paid blamed)) E inX1 tyX1 tyX1_ok nmX1 0 rfl rfl 0 (by decide) q_59 rfl rfl rfl rfl (Nat.le_of_ble_eq_true rfl) rfl dX1_add_59 ?_
  exact kw_vret E hr hlk rfl rfl (by decide) (by decide) dX1_add_62
set_option maxRecDepth 100000 in
set_option maxHeartbeats 4000000 in
theorem m_X1_move (l : Launch) (D : va_G) (k : Nat → ClassId) (h : Nat) (a0 : Nat) (a1 : Nat) (a2 : Nat) (a3 : Nat) (a4 : Nat) (a5 : Nat) (a6 : Nat) (n : Nat) (farm : Nat → Int32) (amount : Nat → Int32) (mark : Nat → Int32) (place : Nat → Int32) (number : Nat → Int32) (paid : Nat → Int32) (blamed : Nat → Int32) (wh : Int32) (wi : Int32) (tw : Int32) (ti : Int32) (hn : n ≤ 100) (hnar : vp_nar .char tw = tw) : mW l yX1_move cX1_move 6 none 1 23 0 0 D (kTy k) [.ref h, .int wh, .int wi, .int tw, .int ti] (wSA k h a0 a1 a2 a3 a4 a5 a6 (nI n) farm amount mark place number paid blamed) none (wSA k h a0 a1 a2 a3 a4 a5 a6 (nI n) farm amount mark (wr (cIn place number wh wi) (fun _ => tw) place n) (wr (cIn place number wh wi) (fun _ => ti) number n) paid blamed) := by
  refine mW.of (lv' := [(0, .ref h), (1, .int wh), (2, .int wi), (3, .int tw), (4, .int ti)]) (by decide) (Nat.le_of_ble_eq_true rfl) rfl ?_
  intro p e s m args below meth c E hr hlk hm hA
  have L3 : ∀ (dn : Nat) (i : Nat) (pf : Nat → Int32) (nu : Nat → Int32), i + dn = n → (pf = wr (cIn place number wh wi) (fun _ => tw) place i) → (nu = wr (cIn place number wh wi) (fun _ => ti) number i) → kJ p l e (kRmc 1 23 0 0) s m args below meth c (gW D (va_A (wSA k h a0 a1 a2 a3 a4 a5 a6 (nI n) farm amount mark place number paid blamed) s.heap.size) s.heap) 6 0 0 (MQ below (kQw none D (wSA k h a0 a1 a2 a3 a4 a5 a6 (nI n) farm amount mark place number paid blamed) (wSA k h a0 a1 a2 a3 a4 a5 a6 (nI n) farm amount mark (wr (cIn place number wh wi) (fun _ => tw) place n) (wr (cIn place number wh wi) (fun _ => ti) number n) paid blamed) s.heap.size) args s 0 0 (va_A (wSA k h a0 a1 a2 a3 a4 a5 a6 (nI n) farm amount mark place number paid blamed) s.heap.size)) (wSA k h a0 a1 a2 a3 a4 a5 a6 (nI n) farm amount mark pf nu paid blamed) 3 [(0, .ref h), (1, .int wh), (2, .int wi), (3, .int tw), (4, .int ti), (5, .int (nI i))] [] := by
    intro dn
    induction dn with
    | zero =>
      intro i pf nu hd hp hq
      refine k_iload E 5 rfl dX1_move_3 ?_
      refine k_aload_n E 0 rfl rfl dX1_move_5 ?_
      refine k_get E inX1 0 rfl rfl 0 (by decide) q_59 rfl rfl dX1_move_6 ?_
      refine k_icmp_ge E (tgt := 46) (by decide) dX1_move_9 (fun c9 => ?_) (fun c9 => absurd ((not_congr (nI_leI (a := n) (b := i) (by omega) (by omega))).mp c9) (by omega))
      have c9 := (nI_leI (a := n) (b := i) (by omega) (by omega)).mp c9
      exact kw_vret E hr hlk rfl (by rw [hp, hq, show i = n by omega]) (by decide) (by decide) dX1_move_46
    | succ dn ih =>
      intro i pf nu hd hp hq
      refine k_iload E 5 rfl dX1_move_3 ?_
      refine k_aload_n E 0 rfl rfl dX1_move_5 ?_
      refine k_get E inX1 0 rfl rfl 0 (by decide) q_59 rfl rfl dX1_move_6 ?_
      refine k_icmp_ge E (tgt := 46) (by decide) dX1_move_9 (fun c9 => absurd ((nI_leI (a := n) (b := i) (by omega) (by omega)).mp c9) (by omega)) (fun c9 => ?_)
      have c9 := (not_congr (nI_leI (a := n) (b := i) (by omega) (by omega))).mp c9
      refine k_aload_n E 0 rfl rfl dX1_move_12 ?_
      refine k_iload E 5 rfl dX1_move_13 ?_
      refine k_iload_n E 1 rfl rfl dX1_move_15 ?_
      refine k_iload_n E 2 rfl rfl dX1_move_16 ?_
      refine k_callRV [.int (nI i), .int wh, .int wi] E (m_X1_isIn l D k h a0 a1 a2 a3 a4 a5 a6 n farm amount mark pf nu paid blamed i wh wi (by first | assumption | omega)) cf_X1_isIn q_132 [0, 1, 2, 3, 4, 5, 6, 7] rfl 0 rfl rfl rfl rfl ⟨by decide, by decide⟩ (Nat.le_of_ble_eq_true rfl) ⟨by decide, by decide⟩ dX1_move_17 ?_
      refine k_if_eq E (tgt := 40) (by decide) dX1_move_20 (fun c20 => ?_) (fun c20 => ?_)
      · skip
        have c20 := kB_f c20
        have c20 : cIn place number wh wi i = false := by simpa [cIn, hp, hq, wr_at] using c20
        refine k_iinc (q := 5) (v := nI (i + 1)) (lv' := [(5, .int (nI (i + 1))), (0, .ref h), (1, .int wh), (2, .int wi), (3, .int tw), (4, .int ti)]) E rfl (nI_inc _) (by decide) rfl dX1_move_40 ?_
        refine k_goto E (tgt := 3) (by decide) dX1_move_43 ?_
        refine k_lv [1, 2, 3, 4, 5, 0] rfl ?_
        exact ih (i + 1) pf nu (by omega) (by rw [hp]; first | exact wr_t c20 | exact wr_f c20) (by rw [hq]; first | exact wr_t c20 | exact wr_f c20)
      · skip
        have c20 := kB_t c20
        have c20 : cIn place number wh wi i = true := by simpa [cIn, hp, hq, wr_at] using c20
        refine k_aload_n E 0 rfl rfl dX1_move_23 ?_
        refine k_get E inX1 0 rfl rfl 4 (by decide) q_67 rfl rfl dX1_move_24 ?_
        refine k_iload E 5 rfl dX1_move_27 ?_
        refine k_iload_n E 3 rfl rfl dX1_move_29 ?_
        refine k_cast (y := tw) (j := i) (ws' := (wSA k h a0 a1 a2 a3 a4 a5 a6 (nI n) farm amount mark (upd pf i tw) nu paid blamed)) E 4 1 rfl rfl rfl (by omega) (by decide) hnar rfl dX1_move_30 ?_
        refine k_aload_n E 0 rfl rfl dX1_move_31 ?_
        refine k_get E inX1 0 rfl rfl 5 (by decide) q_69 rfl rfl dX1_move_32 ?_
        refine k_iload E 5 rfl dX1_move_35 ?_
        refine k_iload E 4 rfl dX1_move_37 ?_
        refine k_iast (y := ti) (j := i) (ws' := (wSA k h a0 a1 a2 a3 a4 a5 a6 (nI n) farm amount mark (upd pf i tw) (upd nu i ti) paid blamed)) E 5 0 rfl rfl rfl (by omega) (by decide) rfl rfl dX1_move_39 ?_
        refine k_iinc (q := 5) (v := nI (i + 1)) (lv' := [(5, .int (nI (i + 1))), (0, .ref h), (1, .int wh), (2, .int wi), (3, .int tw), (4, .int ti)]) E rfl (nI_inc _) (by decide) rfl dX1_move_40 ?_
        refine k_goto E (tgt := 3) (by decide) dX1_move_43 ?_
        refine k_lv [1, 2, 3, 4, 5, 0] rfl ?_
        exact ih (i + 1) (upd pf i tw) (upd nu i ti) (by omega) (by rw [hp]; first | exact wr_t c20 | exact wr_f c20) (by rw [hq]; first | exact wr_t c20 | exact wr_f c20)
  refine k_iconst E (v := 0) (by decide) dX1_move_0 ?_
  refine k_istore (lv' := [(5, .int 0), (0, .ref h), (1, .int wh), (2, .int wi), (3, .int tw), (4, .int ti)]) E (by decide) rfl dX1_move_1 ?_
  refine k_lv [1, 2, 3, 4, 5, 0] rfl ?_
  exact L3 (n - 0) 0 place number (by omega) (wr_0 _ _ _).symm (wr_0 _ _ _).symm
set_option maxRecDepth 100000 in
set_option maxHeartbeats 4000000 in
theorem m_X1_settlePay (l : Launch) (D : va_G) (k : Nat → ClassId) (h : Nat) (a0 : Nat) (a1 : Nat) (a2 : Nat) (a3 : Nat) (a4 : Nat) (a5 : Nat) (a6 : Nat) (n : Nat) (farm : Nat → Int32) (amount : Nat → Int32) (mark : Nat → Int32) (place : Nat → Int32) (number : Nat → Int32) (paid : Nat → Int32) (blamed : Nat → Int32) (b : Int32) (hn : n ≤ 100) : mW l yX1_settlePay cX1_settlePay 3 none 2 41 0 0 D (kTy k) [.ref h, .int b] (wSA k h a0 a1 a2 a3 a4 a5 a6 (nI n) farm amount mark place number paid blamed) none (wSA k h a0 a1 a2 a3 a4 a5 a6 (nI n) farm amount mark place number (wr (cIn place number 98 b) (fun j => amount j * cents (mark j)) paid n) blamed) := by
  refine mW.of (lv' := [(0, .ref h), (1, .int b)]) (by decide) (Nat.le_of_ble_eq_true rfl) rfl ?_
  intro p e s m args below meth c E hr hlk hm hA
  have L2 : ∀ (dn : Nat) (i : Nat) (pd : Nat → Int32), i + dn = n → (pd = wr (cIn place number 98 b) (fun j => amount j * cents (mark j)) paid i) → kJ p l e (kRmc 2 41 0 0) s m args below meth c (gW D (va_A (wSA k h a0 a1 a2 a3 a4 a5 a6 (nI n) farm amount mark place number paid blamed) s.heap.size) s.heap) 3 0 0 (MQ below (kQw none D (wSA k h a0 a1 a2 a3 a4 a5 a6 (nI n) farm amount mark place number paid blamed) (wSA k h a0 a1 a2 a3 a4 a5 a6 (nI n) farm amount mark place number (wr (cIn place number 98 b) (fun j => amount j * cents (mark j)) paid n) blamed) s.heap.size) args s 0 0 (va_A (wSA k h a0 a1 a2 a3 a4 a5 a6 (nI n) farm amount mark place number paid blamed) s.heap.size)) (wSA k h a0 a1 a2 a3 a4 a5 a6 (nI n) farm amount mark place number pd blamed) 2 [(0, .ref h), (1, .int b), (2, .int (nI i))] [] := by
    intro dn
    induction dn with
    | zero =>
      intro i pd hd hp
      refine k_iload_n E 2 rfl rfl dX1_settlePay_2 ?_
      refine k_aload_n E 0 rfl rfl dX1_settlePay_3 ?_
      refine k_get E inX1 0 rfl rfl 0 (by decide) q_59 rfl rfl dX1_settlePay_4 ?_
      refine k_icmp_ge E (tgt := 38) (by decide) dX1_settlePay_7 (fun c7 => ?_) (fun c7 => absurd ((not_congr (nI_leI (a := n) (b := i) (by omega) (by omega))).mp c7) (by omega))
      have c7 := (nI_leI (a := n) (b := i) (by omega) (by omega)).mp c7
      exact kw_vret E hr hlk rfl (by rw [hp, show i = n by omega]) (by decide) (by decide) dX1_settlePay_38
    | succ dn ih =>
      intro i pd hd hp
      refine k_iload_n E 2 rfl rfl dX1_settlePay_2 ?_
      refine k_aload_n E 0 rfl rfl dX1_settlePay_3 ?_
      refine k_get E inX1 0 rfl rfl 0 (by decide) q_59 rfl rfl dX1_settlePay_4 ?_
      refine k_icmp_ge E (tgt := 38) (by decide) dX1_settlePay_7 (fun c7 => absurd ((nI_leI (a := n) (b := i) (by omega) (by omega)).mp c7) (by omega)) (fun c7 => ?_)
      have c7 := (not_congr (nI_leI (a := n) (b := i) (by omega) (by omega))).mp c7
      refine k_aload_n E 0 rfl rfl dX1_settlePay_10 ?_
      refine k_iload_n E 2 rfl rfl dX1_settlePay_11 ?_
      refine k_bipush E (v := 98) (by decide) dX1_settlePay_12 ?_
      refine k_iload_n E 1 rfl rfl dX1_settlePay_14 ?_
      refine k_callRV [.int (nI i), .int 98, .int b] E (m_X1_isIn l D k h a0 a1 a2 a3 a4 a5 a6 n farm amount mark place number pd blamed i 98 b (by first | assumption | omega)) cf_X1_isIn q_132 [0, 1, 2, 3, 4, 5, 6, 7] rfl 0 rfl rfl rfl rfl ⟨by decide, by decide⟩ (Nat.le_of_ble_eq_true rfl) ⟨by decide, by decide⟩ dX1_settlePay_15 ?_
      refine k_if_eq E (tgt := 32) (by decide) dX1_settlePay_18 (fun c18 => ?_) (fun c18 => ?_)
      · skip
        have c18 := kB_f c18
        refine k_iinc (q := 2) (v := nI (i + 1)) (lv' := [(2, .int (nI (i + 1))), (0, .ref h), (1, .int b)]) E rfl (nI_inc _) (by decide) rfl dX1_settlePay_32 ?_
        refine k_goto E (tgt := 2) (by decide) dX1_settlePay_35 ?_
        refine k_lv [1, 2, 0] rfl ?_
        exact ih (i + 1) pd (by omega) (by rw [hp]; first | exact wr_t (v := fun j => amount j * cents (mark j)) c18 | exact wr_f c18)
      · skip
        have c18 := kB_t c18
        refine k_aload_n E 0 rfl rfl dX1_settlePay_21 ?_
        refine k_get E inX1 0 rfl rfl 6 (by decide) q_71 rfl rfl dX1_settlePay_22 ?_
        refine k_iload_n E 2 rfl rfl dX1_settlePay_25 ?_
        refine k_aload_n E 0 rfl rfl dX1_settlePay_26 ?_
        refine k_iload_n E 2 rfl rfl dX1_settlePay_27 ?_
        refine k_callRV [.int (nI i)] E (m_X1_valueOfSample l D k h a0 a1 a2 a3 a4 a5 a6 n farm amount mark place number pd blamed i (by first | assumption | omega)) cf_X1_valueOfSample q_494 [0, 1, 2, 3, 4, 5, 6, 7] rfl 0 rfl rfl rfl rfl ⟨by decide, by decide⟩ (Nat.le_of_ble_eq_true rfl) ⟨by decide, by decide⟩ dX1_settlePay_28 ?_
        refine k_iast (y := amount i * cents (mark i)) (j := i) (ws' := (wSA k h a0 a1 a2 a3 a4 a5 a6 (nI n) farm amount mark place number (upd pd i (amount i * cents (mark i))) blamed)) E 6 0 rfl rfl rfl (by omega) (by decide) rfl rfl dX1_settlePay_31 ?_
        refine k_iinc (q := 2) (v := nI (i + 1)) (lv' := [(2, .int (nI (i + 1))), (0, .ref h), (1, .int b)]) E rfl (nI_inc _) (by decide) rfl dX1_settlePay_32 ?_
        refine k_goto E (tgt := 2) (by decide) dX1_settlePay_35 ?_
        refine k_lv [1, 2, 0] rfl ?_
        exact ih (i + 1) (upd pd i (amount i * cents (mark i))) (by omega) (by rw [hp]; first | exact wr_t (v := fun j => amount j * cents (mark j)) c18 | exact wr_f c18)
  refine k_iconst E (v := 0) (by decide) dX1_settlePay_0 ?_
  refine k_istore_n (lv' := [(2, .int 0), (0, .ref h), (1, .int b)]) E rfl (by decide) rfl dX1_settlePay_1 ?_
  refine k_lv [1, 2, 0] rfl ?_
  exact L2 (n - 0) 0 paid (by omega) (wr_0 _ _ _).symm
set_option maxRecDepth 100000 in
set_option maxHeartbeats 4000000 in
theorem m_X1_settleBlame (l : Launch) (D : va_G) (k : Nat → ClassId) (h : Nat) (a0 : Nat) (a1 : Nat) (a2 : Nat) (a3 : Nat) (a4 : Nat) (a5 : Nat) (a6 : Nat) (n : Nat) (farm : Nat → Int32) (amount : Nat → Int32) (mark : Nat → Int32) (place : Nat → Int32) (number : Nat → Int32) (paid : Nat → Int32) (blamed : Nat → Int32) (b : Int32) (sp : Int32) (hn : n ≤ 100) (hsp : ¬ sp = 0) : mW l yX1_settleBlame cX1_settleBlame 6 none 5 110 0 0 D (kTy k) [.ref h, .int b, .int sp] (wSA k h a0 a1 a2 a3 a4 a5 a6 (nI n) farm amount mark place number paid blamed) none (wSA k h a0 a1 a2 a3 a4 a5 a6 (nI n) farm amount mark place number paid (bl2 mark place number amount blamed b sp n)) := by
  refine mW.of (lv' := [(0, .ref h), (1, .int b), (2, .int sp)]) (by decide) (Nat.le_of_ble_eq_true rfl) rfl ?_
  intro p e s m args below meth c E hr hlk hm hA
  have L70 : ∀ (dn : Nat) (i : Nat) (bf : Nat → Int32) (x : Int32), i + dn = n → (bf = wr (pl (cSp mark place number b) (lft mark place number amount b sp (lossB mark place number amount b n) n)) (fun j => (bl1 mark place number amount blamed b sp (lossB mark place number amount b n) n) j + 1) (bl1 mark place number amount blamed b sp (lossB mark place number amount b n) n) i) → (x = lf (cSp mark place number b) (lft mark place number amount b sp (lossB mark place number amount b n) n) i) → kJ p l e (kRmc 5 110 0 0) s m args below meth c (gW D (va_A (wSA k h a0 a1 a2 a3 a4 a5 a6 (nI n) farm amount mark place number paid blamed) s.heap.size) s.heap) 6 0 0 (MQ below (kQw none D (wSA k h a0 a1 a2 a3 a4 a5 a6 (nI n) farm amount mark place number paid blamed) (wSA k h a0 a1 a2 a3 a4 a5 a6 (nI n) farm amount mark place number paid (bl2 mark place number amount blamed b sp n)) s.heap.size) args s 0 0 (va_A (wSA k h a0 a1 a2 a3 a4 a5 a6 (nI n) farm amount mark place number paid blamed) s.heap.size)) (wSA k h a0 a1 a2 a3 a4 a5 a6 (nI n) farm amount mark place number paid bf) 70 [(0, .ref h), (1, .int b), (4, .int x), (5, .int (nI i))] [] := by
    intro dn
    induction dn with
    | zero =>
      intro i bf x hd hb hx
      refine k_iload E 3 rfl dX1_settleBlame_70 ?_
      refine k_aload_n E 0 rfl rfl dX1_settleBlame_72 ?_
      refine k_get E inX1 0 rfl rfl 0 (by decide) q_59 rfl rfl dX1_settleBlame_73 ?_
      refine k_icmp_ge E (tgt := 114) (by decide) dX1_settleBlame_76 (fun c76 => ?_) (fun c76 => absurd ((not_congr (nI_leI (a := n) (b := i) (by omega) (by omega))).mp c76) (by omega))
      have c76 := (nI_leI (a := n) (b := i) (by omega) (by omega)).mp c76
      exact kw_vret E hr hlk rfl (by first | (rw [hb, show i = n by omega]; rfl) | (rw [hb, wr_stop (n := n) (fun q => absurd q (by rw [← hx]; exact Int32.not_lt.mpr c81)) (by omega)]; rfl)) (by decide) (by decide) dX1_settleBlame_114
    | succ dn ih =>
      intro i bf x hd hb hx
      refine k_iload E 3 rfl dX1_settleBlame_70 ?_
      refine k_aload_n E 0 rfl rfl dX1_settleBlame_72 ?_
      refine k_get E inX1 0 rfl rfl 0 (by decide) q_59 rfl rfl dX1_settleBlame_73 ?_
      refine k_icmp_ge E (tgt := 114) (by decide) dX1_settleBlame_76 (fun c76 => absurd ((nI_leI (a := n) (b := i) (by omega) (by omega)).mp c76) (by omega)) (fun c76 => ?_)
      have c76 := (not_congr (nI_leI (a := n) (b := i) (by omega) (by omega))).mp c76
      refine k_iload E 2 rfl dX1_settleBlame_79 ?_
      refine k_if_le E (tgt := 114) (by decide) dX1_settleBlame_81 (fun c81 => ?_) (fun c81 => ?_)
      · skip
        exact kw_vret E hr hlk rfl (by first | (rw [hb, show i = n by omega]; rfl) | (rw [hb, wr_stop (n := n) (fun q => absurd q (by rw [← hx]; exact Int32.not_lt.mpr c81)) (by omega)]; rfl)) (by decide) (by decide) dX1_settleBlame_114
      · skip
        refine k_aload_n E 0 rfl rfl dX1_settleBlame_84 ?_
        refine k_iload E 3 rfl dX1_settleBlame_85 ?_
        refine k_iload_n E 1 rfl rfl dX1_settleBlame_87 ?_
        refine k_callRV [.int (nI i), .int b] E (m_X1_isSpoiltIn l D k h a0 a1 a2 a3 a4 a5 a6 n farm amount mark place number paid bf i b (by first | assumption | omega)) cf_X1_isSpoiltIn q_474 [0, 1, 2, 3, 4, 5, 6, 7] rfl 0 rfl rfl rfl rfl ⟨by decide, by decide⟩ (Nat.le_of_ble_eq_true rfl) ⟨by decide, by decide⟩ dX1_settleBlame_88 ?_
        refine k_if_eq E (tgt := 108) (by decide) dX1_settleBlame_91 (fun c91 => ?_) (fun c91 => ?_)
        · skip
          have c91 := kB_f c91
          refine k_iinc (q := 3) (v := nI (i + 1)) (lv' := [(5, .int (nI (i + 1))), (0, .ref h), (1, .int b), (4, .int x)]) E rfl (nI_inc _) (by decide) rfl dX1_settleBlame_108 ?_
          refine k_goto E (tgt := 70) (by decide) dX1_settleBlame_111 ?_
          refine k_lv [1, 2, 3, 0] rfl ?_
          exact ih (i + 1) bf x (by omega) (by first | (rw [hb, wr_at]; exact wr_t (v := fun j => (bl1 mark place number amount blamed b sp (lossB mark place number amount b n) n) j + 1) (by simp [pl, c91, ← hx, Int32.not_le.mp c81])) | (rw [hb]; exact wr_f (by simp [pl, c91]))) (by first | (simp [lf, c91, ← hx, Int32.not_le.mp c81]; done) | (simp [lf, c91, hx]; done))
        · skip
          have c91 := kB_t c91
          refine k_aload_n E 0 rfl rfl dX1_settleBlame_94 ?_
          refine k_get E inX1 0 rfl rfl 7 (by decide) q_72 rfl rfl dX1_settleBlame_95 ?_
          refine k_iload E 3 rfl dX1_settleBlame_98 ?_
          refine k_dup2 E rfl rfl dX1_settleBlame_100 ?_
          refine k_iald E (j := i) 7 0 rfl rfl rfl (by omega) (by decide) dX1_settleBlame_101 ?_
          refine k_iconst E (v := 1) (by decide) dX1_settleBlame_102 ?_
          refine k_iadd E dX1_settleBlame_103 ?_
          refine k_iast (y := (bf i) + 1) (j := i) (ws' := (wSA k h a0 a1 a2 a3 a4 a5 a6 (nI n) farm amount mark place number paid (upd bf i ((bf i) + 1)))) E 7 0 rfl rfl rfl (by omega) (by decide) rfl rfl dX1_settleBlame_104 ?_
          refine k_iinc (q := 2) (v := x + (-1)) (lv' := [(4, .int (x + (-1))), (0, .ref h), (1, .int b), (5, .int (nI i))]) E rfl (by rw [show Int32.ofInt (-1) = (-1) from by decide]) (by decide) rfl dX1_settleBlame_105 ?_
          refine k_iinc (q := 3) (v := nI (i + 1)) (lv' := [(5, .int (nI (i + 1))), (4, .int (x + (-1))), (0, .ref h), (1, .int b)]) E rfl (nI_inc _) (by decide) rfl dX1_settleBlame_108 ?_
          refine k_goto E (tgt := 70) (by decide) dX1_settleBlame_111 ?_
          refine k_lv [2, 3, 1, 0] rfl ?_
          exact ih (i + 1) (upd bf i ((bf i) + 1)) (x + (-1)) (by omega) (by first | (rw [hb, wr_at]; exact wr_t (v := fun j => (bl1 mark place number amount blamed b sp (lossB mark place number amount b n) n) j + 1) (by simp [pl, c91, ← hx, Int32.not_le.mp c81])) | (rw [hb]; exact wr_f (by simp [pl, c91]))) (by first | (simp [lf, c91, ← hx, Int32.not_le.mp c81]; done) | (simp [lf, c91, hx]; done))
  have L12 : ∀ (dn : Nat) (i : Nat) (bf : Nat → Int32) (x : Int32), i + dn = n → (bf = bl1 mark place number amount blamed b sp (lossB mark place number amount b n) i) → (x = lft mark place number amount b sp (lossB mark place number amount b n) i) → kJ p l e (kRmc 5 110 0 0) s m args below meth c (gW D (va_A (wSA k h a0 a1 a2 a3 a4 a5 a6 (nI n) farm amount mark place number paid blamed) s.heap.size) s.heap) 6 0 0 (MQ below (kQw none D (wSA k h a0 a1 a2 a3 a4 a5 a6 (nI n) farm amount mark place number paid blamed) (wSA k h a0 a1 a2 a3 a4 a5 a6 (nI n) farm amount mark place number paid (bl2 mark place number amount blamed b sp n)) s.heap.size) args s 0 0 (va_A (wSA k h a0 a1 a2 a3 a4 a5 a6 (nI n) farm amount mark place number paid blamed) s.heap.size)) (wSA k h a0 a1 a2 a3 a4 a5 a6 (nI n) farm amount mark place number paid bf) 12 [(0, .ref h), (1, .int b), (2, .int sp), (3, .int (lossB mark place number amount b n)), (4, .int x), (5, .int (nI i))] [] := by
    intro dn
    induction dn with
    | zero =>
      intro i bf x hd hb hx
      refine k_iload E 5 rfl dX1_settleBlame_12 ?_
      refine k_aload_n E 0 rfl rfl dX1_settleBlame_14 ?_
      refine k_get E inX1 0 rfl rfl 0 (by decide) q_59 rfl rfl dX1_settleBlame_15 ?_
      refine k_icmp_ge E (tgt := 67) (by decide) dX1_settleBlame_18 (fun c18 => ?_) (fun c18 => absurd ((not_congr (nI_leI (a := n) (b := i) (by omega) (by omega))).mp c18) (by omega))
      have c18 := (nI_leI (a := n) (b := i) (by omega) (by omega)).mp c18
      refine k_iconst E (v := 0) (by decide) dX1_settleBlame_67 ?_
      refine k_istore (lv' := [(5, .int 0), (0, .ref h), (1, .int b), (2, .int sp), (3, .int (lossB mark place number amount b n)), (4, .int x)]) E (by decide) rfl dX1_settleBlame_68 ?_
      refine k_lv [1, 2, 5, 0] rfl ?_
      exact L70 (n - 0) 0 bf x (by omega) (by rw [wr_0, hb, show i = n by omega]) (by rw [hx, show i = n by omega]; rfl)
    | succ dn ih =>
      intro i bf x hd hb hx
      refine k_iload E 5 rfl dX1_settleBlame_12 ?_
      refine k_aload_n E 0 rfl rfl dX1_settleBlame_14 ?_
      refine k_get E inX1 0 rfl rfl 0 (by decide) q_59 rfl rfl dX1_settleBlame_15 ?_
      refine k_icmp_ge E (tgt := 67) (by decide) dX1_settleBlame_18 (fun c18 => absurd ((nI_leI (a := n) (b := i) (by omega) (by omega)).mp c18) (by omega)) (fun c18 => ?_)
      have c18 := (not_congr (nI_leI (a := n) (b := i) (by omega) (by omega))).mp c18
      refine k_aload_n E 0 rfl rfl dX1_settleBlame_21 ?_
      refine k_iload E 5 rfl dX1_settleBlame_22 ?_
      refine k_iload_n E 1 rfl rfl dX1_settleBlame_24 ?_
      refine k_callRV [.int (nI i), .int b] E (m_X1_isSpoiltIn l D k h a0 a1 a2 a3 a4 a5 a6 n farm amount mark place number paid bf i b (by first | assumption | omega)) cf_X1_isSpoiltIn q_474 [0, 1, 2, 3, 4, 5, 6, 7] rfl 0 rfl rfl rfl rfl ⟨by decide, by decide⟩ (Nat.le_of_ble_eq_true rfl) ⟨by decide, by decide⟩ dX1_settleBlame_25 ?_
      refine k_if_eq E (tgt := 61) (by decide) dX1_settleBlame_28 (fun c28 => ?_) (fun c28 => ?_)
      · skip
        have c28 := kB_f c28
        refine k_iinc (q := 5) (v := nI (i + 1)) (lv' := [(5, .int (nI (i + 1))), (0, .ref h), (1, .int b), (2, .int sp), (3, .int (lossB mark place number amount b n)), (4, .int x)]) E rfl (nI_inc _) (by decide) rfl dX1_settleBlame_61 ?_
        refine k_goto E (tgt := 12) (by decide) dX1_settleBlame_64 ?_
        refine k_lv [1, 2, 3, 4, 5, 0] rfl ?_
        exact ih (i + 1) bf x (by omega) (by rw [hb]; unfold bl1; first | exact wr_t (v := fun j => lossB mark place number amount b n * amount j / sp) c28 | exact wr_f c28) (by rw [hx]; first | (simp [lft, sI, c28, upd, i32_sss]; done) | (simp [lft, sI, c28]; done))
      · skip
        have c28 := kB_t c28
        refine k_aload_n E 0 rfl rfl dX1_settleBlame_31 ?_
        refine k_get E inX1 0 rfl rfl 7 (by decide) q_72 rfl rfl dX1_settleBlame_32 ?_
        refine k_iload E 5 rfl dX1_settleBlame_35 ?_
        refine k_iload_n E 3 rfl rfl dX1_settleBlame_37 ?_
        refine k_aload_n E 0 rfl rfl dX1_settleBlame_38 ?_
        refine k_get E inX1 0 rfl rfl 2 (by decide) q_63 rfl rfl dX1_settleBlame_39 ?_
        refine k_iload E 5 rfl dX1_settleBlame_42 ?_
        refine k_iald E (j := i) 2 0 rfl rfl rfl (by omega) (by decide) dX1_settleBlame_44 ?_
        refine k_imul E dX1_settleBlame_45 ?_
        refine k_iload_n E 2 rfl rfl dX1_settleBlame_46 ?_
        refine k_idiv E hsp dX1_settleBlame_47 ?_
        refine k_iast (y := ((lossB mark place number amount b n) * (amount i)) / sp) (j := i) (ws' := (wSA k h a0 a1 a2 a3 a4 a5 a6 (nI n) farm amount mark place number paid (upd bf i (((lossB mark place number amount b n) * (amount i)) / sp)))) E 7 0 rfl rfl rfl (by omega) (by decide) rfl rfl dX1_settleBlame_48 ?_
        refine k_iload E 4 rfl dX1_settleBlame_49 ?_
        refine k_aload_n E 0 rfl rfl dX1_settleBlame_51 ?_
        refine k_get E inX1 0 rfl rfl 7 (by decide) q_72 rfl rfl dX1_settleBlame_52 ?_
        refine k_iload E 5 rfl dX1_settleBlame_55 ?_
        refine k_iald E (j := i) 7 0 rfl rfl rfl (by omega) (by decide) dX1_settleBlame_57 ?_
        refine k_isub E dX1_settleBlame_58 ?_
        refine k_istore (lv' := [(4, .int (x - ((upd bf i (((lossB mark place number amount b n) * (amount i)) / sp)) i))), (0, .ref h), (1, .int b), (2, .int sp), (3, .int (lossB mark place number amount b n)), (5, .int (nI i))]) E (by decide) rfl dX1_settleBlame_59 ?_
        refine k_iinc (q := 5) (v := nI (i + 1)) (lv' := [(5, .int (nI (i + 1))), (4, .int (x - ((upd bf i (((lossB mark place number amount b n) * (amount i)) / sp)) i))), (0, .ref h), (1, .int b), (2, .int sp), (3, .int (lossB mark place number amount b n))]) E rfl (nI_inc _) (by decide) rfl dX1_settleBlame_61 ?_
        refine k_goto E (tgt := 12) (by decide) dX1_settleBlame_64 ?_
        refine k_lv [2, 3, 4, 5, 1, 0] rfl ?_
        exact ih (i + 1) (upd bf i (((lossB mark place number amount b n) * (amount i)) / sp)) (x - ((upd bf i (((lossB mark place number amount b n) * (amount i)) / sp)) i)) (by omega) (by rw [hb]; unfold bl1; first | exact wr_t (v := fun j => lossB mark place number amount b n * amount j / sp) c28 | exact wr_f c28) (by rw [hx]; first | (simp [lft, sI, c28, upd, i32_sss]; done) | (simp [lft, sI, c28]; done))
  refine k_aload_n E 0 rfl rfl dX1_settleBlame_0 ?_
  refine k_iload_n E 1 rfl rfl dX1_settleBlame_1 ?_
  refine k_callRV [.int b] E (m_X1_lossOf l D k h a0 a1 a2 a3 a4 a5 a6 n farm amount mark place number paid blamed b (by first | assumption | omega)) cf_X1_lossOf q_482 [0, 1, 2, 3, 4, 5, 6, 7] rfl 0 rfl rfl rfl rfl ⟨by decide, by decide⟩ (Nat.le_of_ble_eq_true rfl) ⟨by decide, by decide⟩ dX1_settleBlame_2 ?_
  refine k_istore_n (lv' := [(3, .int (lossB mark place number amount b n)), (0, .ref h), (1, .int b), (2, .int sp)]) E rfl (by decide) rfl dX1_settleBlame_5 ?_
  refine k_iload_n E 0 rfl rfl dX1_settleBlame_6 ?_
  refine k_istore (lv' := [(4, .int (lossB mark place number amount b n)), (3, .int (lossB mark place number amount b n)), (0, .ref h), (1, .int b), (2, .int sp)]) E (by decide) rfl dX1_settleBlame_7 ?_
  refine k_iconst E (v := 0) (by decide) dX1_settleBlame_9 ?_
  refine k_istore (lv' := [(5, .int 0), (4, .int (lossB mark place number amount b n)), (3, .int (lossB mark place number amount b n)), (0, .ref h), (1, .int b), (2, .int sp)]) E (by decide) rfl dX1_settleBlame_10 ?_
  refine k_lv [3, 4, 5, 2, 1, 0] rfl ?_
  exact L12 (n - 0) 0 blamed (lossB mark place number amount b n) (by omega) (wr_0 _ _ _).symm (by simp [lft, sI])
set_option maxRecDepth 100000 in
set_option maxHeartbeats 4000000 in
theorem m_X1_settle (l : Launch) (D : va_G) (k : Nat → ClassId) (h : Nat) (a0 : Nat) (a1 : Nat) (a2 : Nat) (a3 : Nat) (a4 : Nat) (a5 : Nat) (a6 : Nat) (n : Nat) (farm : Nat → Int32) (amount : Nat → Int32) (mark : Nat → Int32) (place : Nat → Int32) (number : Nat → Int32) (paid : Nat → Int32) (blamed : Nat → Int32) (b : Int32) (hn : n ≤ 100) : mW l yX1_settle cX1_settle 3 none 6 135 0 0 D (kTy k) [.ref h, .int b] (wSA k h a0 a1 a2 a3 a4 a5 a6 (nI n) farm amount mark place number paid blamed) none (wSA k h a0 a1 a2 a3 a4 a5 a6 (nI n) farm amount mark place number (stP mark place number amount paid b n) (stB mark place number amount blamed b n)) := by
  refine mW.of (lv' := [(0, .ref h), (1, .int b)]) (by decide) (Nat.le_of_ble_eq_true rfl) rfl ?_
  intro p e s m args below meth c E hr hlk hm hA
  refine k_aload_n E 0 rfl rfl dX1_settle_0 ?_
  refine k_iload_n E 1 rfl rfl dX1_settle_1 ?_
  refine k_callRV [.int b] E (m_X1_isGraded l D k h a0 a1 a2 a3 a4 a5 a6 n farm amount mark place number paid blamed b (by first | assumption | omega)) cf_X1_isGraded q_466 [0, 1, 2, 3, 4, 5, 6, 7] rfl 0 rfl rfl rfl rfl ⟨by decide, by decide⟩ (Nat.le_of_ble_eq_true rfl) ⟨by decide, by decide⟩ dX1_settle_2 ?_
  refine k_if_ne E (tgt := 9) (by decide) dX1_settle_5 (fun c5 => ?_) (fun c5 => ?_)
  · skip
    have c5 := kB_t c5
    refine k_aload_n E 0 rfl rfl dX1_settle_9 ?_
    refine k_iload_n E 1 rfl rfl dX1_settle_10 ?_
    refine k_callRV [.int b] E (m_X1_spoiltLitres l D k h a0 a1 a2 a3 a4 a5 a6 n farm amount mark place number paid blamed b (by first | assumption | omega)) cf_X1_spoiltLitres q_470 [0, 1, 2, 3, 4, 5, 6, 7] rfl 0 rfl rfl rfl rfl ⟨by decide, by decide⟩ (Nat.le_of_ble_eq_true rfl) ⟨by decide, by decide⟩ dX1_settle_11 ?_
    refine k_istore_n (lv' := [(2, .int (spl mark place number amount b n)), (0, .ref h), (1, .int b)]) E rfl (by decide) rfl dX1_settle_14 ?_
    refine k_iload_n E 0 rfl rfl dX1_settle_15 ?_
    refine k_if_le E (tgt := 28) (by decide) dX1_settle_16 (fun c16 => ?_) (fun c16 => ?_)
    · skip
      refine k_aload_n E 1 rfl rfl dX1_settle_28 ?_
      refine k_iload_n E 2 rfl rfl dX1_settle_29 ?_
      refine k_callWV [.int b] E hA (m_X1_settlePay l D k h a0 a1 a2 a3 a4 a5 a6 n farm amount mark place number paid blamed b (by first | assumption | omega)) cf_X1_settlePay q_501 [] [] (ws' := (wSA k h a0 a1 a2 a3 a4 a5 a6 (nI n) farm amount mark place number (wr (cIn place number 98 b) (fun j => amount j * cents (mark j)) paid n) blamed)) rfl rfl 0 rfl rfl rfl rfl ⟨by decide, by decide⟩ (Nat.le_of_ble_eq_true rfl) ⟨by decide, by decide⟩ dX1_settle_30 ?_
      exact kw_vret E hr hlk rfl (by first | (simp [stP, stB, c5, Int32.not_lt.mpr c16]; done) | (simp [stP, stB, c5, Int32.not_le.mp c16]; done)) (by decide) (by decide) dX1_settle_33
    · skip
      refine k_aload_n E 1 rfl rfl dX1_settle_19 ?_
      refine k_iload_n E 2 rfl rfl dX1_settle_20 ?_
      refine k_iload_n E 0 rfl rfl dX1_settle_21 ?_
      refine k_callWV [.int b, .int (spl mark place number amount b n)] E hA (m_X1_settleBlame l D k h a0 a1 a2 a3 a4 a5 a6 n farm amount mark place number paid blamed b (spl mark place number amount b n) (by first | assumption | omega) (fun h => c16 (by rw [h]; decide))) cf_X1_settleBlame q_478 [] [] (ws' := (wSA k h a0 a1 a2 a3 a4 a5 a6 (nI n) farm amount mark place number paid (bl2 mark place number amount blamed b (spl mark place number amount b n) n))) rfl rfl 0 rfl rfl rfl rfl ⟨by decide, by decide⟩ (Nat.le_of_ble_eq_true rfl) ⟨by decide, by decide⟩ dX1_settle_22 ?_
      refine k_goto E (tgt := 33) (by decide) dX1_settle_25 ?_
      exact kw_vret E hr hlk rfl (by first | (simp [stP, stB, c5, Int32.not_lt.mpr c16]; done) | (simp [stP, stB, c5, Int32.not_le.mp c16]; done)) (by decide) (by decide) dX1_settle_33
  · skip
    have c5 := kB_f c5
    exact kw_vret E hr hlk rfl (by simp [stP, stB, c5]) (by decide) (by decide) dX1_settle_8
end
section
set_option maxRecDepth 100000 in
set_option maxHeartbeats 4000000 in
theorem m_X0_milkOfCow (l : Launch) (D : va_G) (k : Nat → ClassId) (b : Int32) (dz : Int32)  : mR l yX0_milkOfCow cX0_milkOfCow 2 (some .int) 1 30 D (kTy k) [.int b, .int dz] ([] : va_W) (some (.int (milkC b dz))) := by
  refine mR.of (lv' := [(0, .int b), (1, .int dz)]) (by decide) (Nat.le_of_ble_eq_true rfl) rfl ?_
  intro p e s m args below meth c E hr hlk
  refine k_iconst E (v := 5) (by decide) dX0_milkOfCow_0 ?_
  refine k_iload_n E 0 rfl rfl dX0_milkOfCow_1 ?_
  refine k_iconst E (v := 5) (by decide) dX0_milkOfCow_2 ?_
  refine k_iload_n E 1 rfl rfl dX0_milkOfCow_3 ?_
  refine k_bipush E (v := 10) (by decide) dX0_milkOfCow_4 ?_
  refine k_irem E (by decide) dX0_milkOfCow_6 ?_
  refine k_isub E dX0_milkOfCow_7 ?_
  refine k_mabs E q_314 q_315 q_13 q_316 (by decide) (Nat.le_of_ble_eq_true rfl) (by decide) (by decide) dX0_milkOfCow_8 ?_
  refine k_isub E dX0_milkOfCow_11 ?_
  refine k_mmax E q_317 q_318 q_13 q_319 (by decide) (Nat.le_of_ble_eq_true rfl) (by decide) (by decide) dX0_milkOfCow_12 ?_
  exact kr_iret E hr hlk rfl dX0_milkOfCow_15
set_option maxRecDepth 100000 in
set_option maxHeartbeats 4000000 in
theorem m_X0_milkOn (l : Launch) (D : va_G) (k : Nat → ClassId) (h : Nat) (a0 : Nat) (a1 : Nat) (a2 : Nat) (a3 : Nat) (rr : Nat → Nat) (nf : Nat) (rooms : Nat → Int32) (tanks : Nat → Int32) (cows : Nat → Int32) (bst : Nat → Nat → Int32) (f : Nat) (cz : Nat) (dz : Int32) (hf : f < 6) (hc : cows f = nI cz) (hc5 : cz ≤ 5) : mR l yX0_milkOn cX0_milkOn 5 (some .int) 2 51 D (kTy k) [.ref h, .int (nI f), .int dz] (wFA k h a0 a1 a2 a3 rr (nI nf) rooms tanks cows bst) (some (.int (milkF (bst f) dz cz))) := by
  refine mR.of (lv' := [(0, .ref h), (1, .int (nI f)), (2, .int dz)]) (by decide) (Nat.le_of_ble_eq_true rfl) rfl ?_
  intro p e s m args below meth c E hr hlk
  have L5 : ∀ (dn : Nat) (i : Nat) (x : Int32), i + dn = cz → (x = milkF (bst f) dz i) → kJ p l e (kRm 2 51) s m args below meth c (gR D s.heap) 5 0 0 (MQ below (kQr (some (.int (milkF (bst f) dz cz)))) args s 0 0 (fun _ => False)) (wFA k h a0 a1 a2 a3 rr (nI nf) rooms tanks cows bst) 5 [(0, .ref h), (1, .int (nI f)), (2, .int dz), (3, .int x), (4, .int (nI i))] [] := by
    intro dn
    induction dn with
    | zero =>
      intro i x hd hx
      refine k_iload E 4 rfl dX0_milkOn_5 ?_
      refine k_aload_n E 0 rfl rfl dX0_milkOn_7 ?_
      refine k_get E inX0 0 rfl rfl 3 (by decide) q_38 rfl rfl dX0_milkOn_8 ?_
      refine k_iload_n E 1 rfl rfl dX0_milkOn_11 ?_
      refine k_iald E (j := f) 3 0 rfl rfl rfl (by omega) (by decide) dX0_milkOn_12 ?_
      refine k_steq (st' := [.int (nI cz), .int (nI i)]) (by rw [show cows f = nI cz from hc]) ?_
      refine k_icmp_ge E (tgt := 38) (by decide) dX0_milkOn_13 (fun c13 => ?_) (fun c13 => absurd ((not_congr (nI_leI (a := cz) (b := i) (by omega) (by omega))).mp c13) (by omega))
      have c13 := (nI_leI (a := cz) (b := i) (by omega) (by omega)).mp c13
      refine k_iload_n E 3 rfl rfl dX0_milkOn_38 ?_
      exact kr_iret E hr hlk (by rw [hx, show i = cz by omega]) dX0_milkOn_39
    | succ dn ih =>
      intro i x hd hx
      refine k_iload E 4 rfl dX0_milkOn_5 ?_
      refine k_aload_n E 0 rfl rfl dX0_milkOn_7 ?_
      refine k_get E inX0 0 rfl rfl 3 (by decide) q_38 rfl rfl dX0_milkOn_8 ?_
      refine k_iload_n E 1 rfl rfl dX0_milkOn_11 ?_
      refine k_iald E (j := f) 3 0 rfl rfl rfl (by omega) (by decide) dX0_milkOn_12 ?_
      refine k_steq (st' := [.int (nI cz), .int (nI i)]) (by rw [show cows f = nI cz from hc]) ?_
      refine k_icmp_ge E (tgt := 38) (by decide) dX0_milkOn_13 (fun c13 => absurd ((nI_leI (a := cz) (b := i) (by omega) (by omega)).mp c13) (by omega)) (fun c13 => ?_)
      have c13 := (not_congr (nI_leI (a := cz) (b := i) (by omega) (by omega))).mp c13
      refine k_iload_n E 3 rfl rfl dX0_milkOn_16 ?_
      refine k_aload_n E 0 rfl rfl dX0_milkOn_17 ?_
      refine k_get E inX0 0 rfl rfl 4 (by decide) q_40 rfl rfl dX0_milkOn_18 ?_
      refine k_iload_n E 1 rfl rfl dX0_milkOn_21 ?_
      refine k_aald E (j := f) (b := rr f) 4 5 rfl rfl rfl (by omega) (by decide) (if_pos (by omega)) dX0_milkOn_22 ?_
      refine k_iload E 4 rfl dX0_milkOn_23 ?_
      refine k_iald E (j := i) (5 + f) 0 (wFA_row (by omega)) rfl rfl (by omega) (by decide) dX0_milkOn_25 ?_
      refine k_iload_n E 2 rfl rfl dX0_milkOn_26 ?_
      refine k_callRS [.int (bst f i), .int dz] E (m_X0_milkOfCow l D k (bst f i) dz) cf_X0_milkOfCow q_311 [] rfl rfl rfl ⟨by decide, by decide⟩ (Nat.le_of_ble_eq_true rfl) ⟨by decide, by decide⟩ dX0_milkOn_27 ?_
      refine k_iadd E dX0_milkOn_30 ?_
      refine k_istore_n (lv' := [(3, .int (x + (milkC (bst f i) dz))), (0, .ref h), (1, .int (nI f)), (2, .int dz), (4, .int (nI i))]) E rfl (by decide) rfl dX0_milkOn_31 ?_
      refine k_iinc (q := 4) (v := nI (i + 1)) (lv' := [(4, .int (nI (i + 1))), (3, .int (x + (milkC (bst f i) dz))), (0, .ref h), (1, .int (nI f)), (2, .int dz)]) E rfl (nI_inc _) (by decide) rfl dX0_milkOn_32 ?_
      refine k_goto E (tgt := 5) (by decide) dX0_milkOn_35 ?_
      refine k_lv [2, 3, 4, 1, 0] rfl ?_
      exact ih (i + 1) (x + (milkC (bst f i) dz)) (by omega) (by rw [hx]; simp [milkF, sI])
  refine k_iconst E (v := 0) (by decide) dX0_milkOn_0 ?_
  refine k_istore_n (lv' := [(3, .int 0), (0, .ref h), (1, .int (nI f)), (2, .int dz)]) E rfl (by decide) rfl dX0_milkOn_1 ?_
  refine k_iconst E (v := 0) (by decide) dX0_milkOn_2 ?_
  refine k_istore (lv' := [(4, .int 0), (3, .int 0), (0, .ref h), (1, .int (nI f)), (2, .int dz)]) E (by decide) rfl dX0_milkOn_3 ?_
  refine k_lv [2, 3, 4, 1, 0] rfl ?_
  exact L5 (cz - 0) 0 0 (by omega) rfl
set_option maxRecDepth 100000 in
set_option maxHeartbeats 4000000 in
theorem m_X0_add (l : Launch) (D : va_G) (k : Nat → ClassId) (h : Nat) (a0 : Nat) (a1 : Nat) (a2 : Nat) (a3 : Nat) (rr : Nat → Nat) (nf : Nat) (rooms : Nat → Int32) (tanks : Nat → Int32) (cows : Nat → Int32) (bst : Nat → Nat → Int32) (room : Int32) (hn : nf < 6) : mW l yX0_add cX0_add 2 (some .int) 0 0 0 0 D (kTy k) [.ref h, .int room] (wFA k h a0 a1 a2 a3 rr (nI nf) rooms tanks cows bst) (some (.int (nI nf))) (wFA k h a0 a1 a2 a3 rr (nI (nf + 1)) (upd rooms nf room) tanks cows bst) := by
  refine mW.of (lv' := [(0, .ref h), (1, .int room)]) (by decide) (Nat.le_of_ble_eq_true rfl) rfl ?_
  intro p e s m args below meth c E hr hlk hm hA
  refine k_aload_n E 0 rfl rfl dX0_add_0 ?_
  refine k_get E inX0 0 rfl rfl 1 (by decide) q_35 rfl rfl dX0_add_1 ?_
  refine k_aload_n E 0 rfl rfl dX0_add_4 ?_
  refine k_get E inX0 0 rfl rfl 0 (by decide) q_33 rfl rfl dX0_add_5 ?_
  refine k_iload_n E 1 rfl rfl dX0_add_8 ?_
  refine k_iast (y := room) (j := nf) (ws' := (wFA k h a0 a1 a2 a3 rr (nI nf) (upd rooms nf room) tanks cows bst)) E 1 0 rfl rfl rfl (by omega) (by decide) rfl rfl dX0_add_9 ?_
  refine k_aload_n E 0 rfl rfl dX0_add_10 ?_
  refine k_dup E rfl dX0_add_11 ?_
  refine k_get E inX0 0 rfl rfl 0 (by decide) q_33 rfl rfl dX0_add_12 ?_
  refine k_dup_x1 E rfl rfl dX0_add_15 ?_
  refine k_iconst E (v := 1) (by decide) dX0_add_16 ?_
  refine k_iadd E dX0_add_17 ?_
  refine k_steq (st' := [.int (nI (nf + 1)), .ref h, .int (nI nf)]) (by rw [show (nI nf) + 1 = nI (nf + 1) from nI_1 nf]) ?_
  refine k_put (ws' := (wFA k h a0 a1 a2 a3 rr (nI (nf + 1)) (upd rooms nf room) tanks cows bst)) E inX0 tyX0 tyX0_ok nmX0 0 rfl rfl 0 (by decide) q_33 rfl rfl rfl rfl (Nat.le_of_ble_eq_true rfl) rfl dX0_add_18 ?_
  exact kw_iret E hr hlk rfl rfl (by decide) (by decide) dX0_add_21
set_option maxRecDepth 100000 in
set_option maxHeartbeats 4000000 in
theorem m_X0_addCowTo (l : Launch) (D : va_G) (k : Nat → ClassId) (h : Nat) (a0 : Nat) (a1 : Nat) (a2 : Nat) (a3 : Nat) (rr : Nat → Nat) (nf : Nat) (rooms : Nat → Int32) (tanks : Nat → Int32) (cows : Nat → Int32) (bst : Nat → Nat → Int32) (f : Nat) (cz : Nat) (best : Int32) (hf : f < 6) (hc : cows f = nI cz) (hc5 : cz < 5) : mW l yX0_addCowTo cX0_addCowTo 3 (some .int) 0 0 0 0 D (kTy k) [.ref h, .int (nI f), .int best] (wFA k h a0 a1 a2 a3 rr (nI nf) rooms tanks cows bst) (some (.int (nI (cz + 1)))) (wFA k h a0 a1 a2 a3 rr (nI nf) rooms tanks (upd cows f (nI (cz + 1))) (fun i => if i = f then upd (bst f) cz best else bst i)) := by
  refine mW.of (lv' := [(0, .ref h), (1, .int (nI f)), (2, .int best)]) (by decide) (Nat.le_of_ble_eq_true rfl) rfl ?_
  intro p e s m args below meth c E hr hlk hm hA
  refine k_aload_n E 0 rfl rfl dX0_addCowTo_0 ?_
  refine k_get E inX0 0 rfl rfl 4 (by decide) q_40 rfl rfl dX0_addCowTo_1 ?_
  refine k_iload_n E 1 rfl rfl dX0_addCowTo_4 ?_
  refine k_aald E (j := f) (b := rr f) 4 5 rfl rfl rfl (by omega) (by decide) (if_pos (by omega)) dX0_addCowTo_5 ?_
  refine k_aload_n E 0 rfl rfl dX0_addCowTo_6 ?_
  refine k_get E inX0 0 rfl rfl 3 (by decide) q_38 rfl rfl dX0_addCowTo_7 ?_
  refine k_iload_n E 1 rfl rfl dX0_addCowTo_10 ?_
  refine k_iald E (j := f) 3 0 rfl rfl rfl (by omega) (by decide) dX0_addCowTo_11 ?_
  refine k_steq (st' := [.int (nI cz), .ref (rr f)]) (by rw [show cows f = nI cz from hc]) ?_
  refine k_iload_n E 2 rfl rfl dX0_addCowTo_12 ?_
  refine k_iast (j := cz) (ws' := (wFA k h a0 a1 a2 a3 rr (nI nf) rooms tanks cows (fun i => if i = f then upd (bst f) cz best else bst i))) (y := best) E (5 + f) 0 (wFA_row (by omega)) rfl rfl (by omega) (by decide) rfl (wFA_set (by omega) _) dX0_addCowTo_13 ?_
  refine k_aload_n E 0 rfl rfl dX0_addCowTo_14 ?_
  refine k_get E inX0 0 rfl rfl 3 (by decide) q_38 rfl rfl dX0_addCowTo_15 ?_
  refine k_iload_n E 1 rfl rfl dX0_addCowTo_18 ?_
  refine k_dup2 E rfl rfl dX0_addCowTo_19 ?_
  refine k_iald E (j := f) 3 0 rfl rfl rfl (by omega) (by decide) dX0_addCowTo_20 ?_
  refine k_steq (st' := [.int (nI cz), .int (nI f), .ref a2]) (by rw [show cows f = nI cz from hc]) ?_
  refine k_iconst E (v := 1) (by decide) dX0_addCowTo_21 ?_
  refine k_iadd E dX0_addCowTo_22 ?_
  refine k_steq (st' := [.int (nI (cz + 1)), .int (nI f), .ref a2]) (by rw [show (nI cz) + 1 = nI (cz + 1) from nI_1 cz]) ?_
  refine k_iast (y := nI (cz + 1)) (j := f) (ws' := (wFA k h a0 a1 a2 a3 rr (nI nf) rooms tanks (upd cows f (nI (cz + 1))) (fun i => if i = f then upd (bst f) cz best else bst i))) E 3 0 rfl rfl rfl (by omega) (by decide) rfl rfl dX0_addCowTo_23 ?_
  refine k_aload_n E 0 rfl rfl dX0_addCowTo_24 ?_
  refine k_get E inX0 0 rfl rfl 3 (by decide) q_38 rfl rfl dX0_addCowTo_25 ?_
  refine k_iload_n E 1 rfl rfl dX0_addCowTo_28 ?_
  refine k_iald E (j := f) 3 0 rfl rfl rfl (by omega) (by decide) dX0_addCowTo_29 ?_
  exact kw_iret E hr hlk (by simp [upd]) rfl (by decide) (by decide) dX0_addCowTo_30
set_option maxRecDepth 100000 in
set_option maxHeartbeats 4000000 in
theorem m_X0_draw (l : Launch) (D : va_G) (k : Nat → ClassId) (h : Nat) (a0 : Nat) (a1 : Nat) (a2 : Nat) (a3 : Nat) (rr : Nat → Nat) (nf : Nat) (rooms : Nat → Int32) (tanks : Nat → Int32) (cows : Nat → Int32) (bst : Nat → Nat → Int32) (f : Nat) (room : Int32) (hf : f < 6) : mW l yX0_draw cX0_draw 4 (some .int) 1 30 0 0 D (kTy k) [.ref h, .int (nI f), .int room] (wFA k h a0 a1 a2 a3 rr (nI nf) rooms tanks cows bst) (some (.int (minI (tanks f) room))) (wFA k h a0 a1 a2 a3 rr (nI nf) rooms (upd tanks f (tanks f - minI (tanks f) room)) cows bst) := by
  refine mW.of (lv' := [(0, .ref h), (1, .int (nI f)), (2, .int room)]) (by decide) (Nat.le_of_ble_eq_true rfl) rfl ?_
  intro p e s m args below meth c E hr hlk hm hA
  refine k_aload_n E 0 rfl rfl dX0_draw_0 ?_
  refine k_get E inX0 0 rfl rfl 2 (by decide) q_36 rfl rfl dX0_draw_1 ?_
  refine k_iload_n E 1 rfl rfl dX0_draw_4 ?_
  refine k_iald E (j := f) 2 0 rfl rfl rfl (by omega) (by decide) dX0_draw_5 ?_
  refine k_iload_n E 2 rfl rfl dX0_draw_6 ?_
  refine k_mmin E q_340 q_341 q_13 q_342 (by decide) (Nat.le_of_ble_eq_true rfl) (by decide) (by decide) dX0_draw_7 ?_
  refine k_istore_n (lv' := [(3, .int (if room < (tanks f) then room else (tanks f))), (0, .ref h), (1, .int (nI f)), (2, .int room)]) E rfl (by decide) rfl dX0_draw_10 ?_
  refine k_aload_n E 1 rfl rfl dX0_draw_11 ?_
  refine k_get E inX0 0 rfl rfl 2 (by decide) q_36 rfl rfl dX0_draw_12 ?_
  refine k_iload_n E 2 rfl rfl dX0_draw_15 ?_
  refine k_dup2 E rfl rfl dX0_draw_16 ?_
  refine k_iald E (j := f) 2 0 rfl rfl rfl (by omega) (by decide) dX0_draw_17 ?_
  refine k_iload_n E 0 rfl rfl dX0_draw_18 ?_
  refine k_isub E dX0_draw_19 ?_
  refine k_iast (y := (tanks f) - (if room < (tanks f) then room else (tanks f))) (j := f) (ws' := (wFA k h a0 a1 a2 a3 rr (nI nf) rooms (upd tanks f ((tanks f) - (if room < (tanks f) then room else (tanks f)))) cows bst)) E 2 0 rfl rfl rfl (by omega) (by decide) rfl rfl dX0_draw_20 ?_
  refine k_iload_n E 0 rfl rfl dX0_draw_21 ?_
  exact kw_iret E hr hlk rfl rfl (by decide) (by decide) dX0_draw_22
set_option maxRecDepth 100000 in
set_option maxHeartbeats 4000000 in
theorem m_X0_milkAll (l : Launch) (D : va_G) (k : Nat → ClassId) (h : Nat) (a0 : Nat) (a1 : Nat) (a2 : Nat) (a3 : Nat) (rr : Nat → Nat) (nf : Nat) (rooms : Nat → Int32) (tanks : Nat → Int32) (cows : Nat → Int32) (bst : Nat → Nat → Int32) (cw : Nat → Nat) (dz : Int32) (hn : nf ≤ 6) (hcw : ∀ i, i < nf → cows i = nI (cw i) ∧ cw i ≤ 5) : mW l yX0_milkAll cX0_milkAll 6 (some .int) 3 75 0 0 D (kTy k) [.ref h, .int dz] (wFA k h a0 a1 a2 a3 rr (nI nf) rooms tanks cows bst) (some (.int (poF rooms tanks bst cw dz nf))) (wFA k h a0 a1 a2 a3 rr (nI nf) rooms (tkF rooms tanks bst cw dz nf) cows bst) := by
  refine mW.of (lv' := [(0, .ref h), (1, .int dz)]) (by decide) (Nat.le_of_ble_eq_true rfl) rfl ?_
  intro p e s m args below meth c E hr hlk hm hA
  have L4 : ∀ (dn : Nat) (i : Nat) (tk : Nat → Int32) (x : Int32), i + dn = nf → (tk = tkF rooms tanks bst cw dz i) → (x = poF rooms tanks bst cw dz i) → kJ p l e (kRmc 3 75 0 0) s m args below meth c (gW D (va_A (wFA k h a0 a1 a2 a3 rr (nI nf) rooms tanks cows bst) s.heap.size) s.heap) 6 0 0 (MQ below (kQw (some (.int (poF rooms tanks bst cw dz nf))) D (wFA k h a0 a1 a2 a3 rr (nI nf) rooms tanks cows bst) (wFA k h a0 a1 a2 a3 rr (nI nf) rooms (tkF rooms tanks bst cw dz nf) cows bst) s.heap.size) args s 0 0 (va_A (wFA k h a0 a1 a2 a3 rr (nI nf) rooms tanks cows bst) s.heap.size)) (wFA k h a0 a1 a2 a3 rr (nI nf) rooms tk cows bst) 4 [(0, .ref h), (1, .int dz), (2, .int x), (3, .int (nI i))] [] := by
    intro dn
    induction dn with
    | zero =>
      intro i tk x hd ht hx
      refine k_iload_n E 3 rfl rfl dX0_milkAll_4 ?_
      refine k_aload_n E 0 rfl rfl dX0_milkAll_5 ?_
      refine k_get E inX0 0 rfl rfl 0 (by decide) q_33 rfl rfl dX0_milkAll_6 ?_
      refine k_icmp_ge E (tgt := 65) (by decide) dX0_milkAll_9 (fun c9 => ?_) (fun c9 => absurd ((not_congr (nI_leI (a := nf) (b := i) (by omega) (by omega))).mp c9) (by omega))
      have c9 := (nI_leI (a := nf) (b := i) (by omega) (by omega)).mp c9
      refine k_iload_n E 2 rfl rfl dX0_milkAll_65 ?_
      exact kw_iret E hr hlk (by rw [hx, show i = nf by omega]) (by rw [ht, show i = nf by omega]) (by decide) (by decide) dX0_milkAll_66
    | succ dn ih =>
      intro i tk x hd ht hx
      refine k_iload_n E 3 rfl rfl dX0_milkAll_4 ?_
      refine k_aload_n E 0 rfl rfl dX0_milkAll_5 ?_
      refine k_get E inX0 0 rfl rfl 0 (by decide) q_33 rfl rfl dX0_milkAll_6 ?_
      refine k_icmp_ge E (tgt := 65) (by decide) dX0_milkAll_9 (fun c9 => absurd ((nI_leI (a := nf) (b := i) (by omega) (by omega)).mp c9) (by omega)) (fun c9 => ?_)
      have c9 := (not_congr (nI_leI (a := nf) (b := i) (by omega) (by omega))).mp c9
      refine k_aload_n E 0 rfl rfl dX0_milkAll_12 ?_
      refine k_iload_n E 3 rfl rfl dX0_milkAll_13 ?_
      refine k_iload_n E 1 rfl rfl dX0_milkAll_14 ?_
      refine k_callRV [.int (nI i), .int dz] E (m_X0_milkOn l D k h a0 a1 a2 a3 rr nf rooms tk cows bst i (cw i) dz (by first | assumption | omega) (hcw i (by omega)).1 (hcw i (by omega)).2) cf_X0_milkOn q_339 [0, 1, 2, 3, 4, 5, 6, 7, 8, 9, 10] rfl 0 rfl rfl rfl rfl ⟨by decide, by decide⟩ (Nat.le_of_ble_eq_true rfl) ⟨by decide, by decide⟩ dX0_milkAll_15 ?_
      refine k_istore (lv' := [(4, .int (milkF (bst i) dz (cw i))), (0, .ref h), (1, .int dz), (2, .int x), (3, .int (nI i))]) E (by decide) rfl dX0_milkAll_18 ?_
      refine k_iload E 0 rfl dX0_milkAll_20 ?_
      refine k_aload_n E 1 rfl rfl dX0_milkAll_22 ?_
      refine k_get E inX0 0 rfl rfl 1 (by decide) q_35 rfl rfl dX0_milkAll_23 ?_
      refine k_iload_n E 4 rfl rfl dX0_milkAll_26 ?_
      refine k_iald E (j := i) 1 0 rfl rfl rfl (by omega) (by decide) dX0_milkAll_27 ?_
      refine k_aload_n E 1 rfl rfl dX0_milkAll_28 ?_
      refine k_get E inX0 0 rfl rfl 2 (by decide) q_36 rfl rfl dX0_milkAll_29 ?_
      refine k_iload_n E 4 rfl rfl dX0_milkAll_32 ?_
      refine k_iald E (j := i) 2 0 rfl rfl rfl (by omega) (by decide) dX0_milkAll_33 ?_
      refine k_isub E dX0_milkAll_34 ?_
      refine k_mmin E q_340 q_341 q_13 q_342 (by decide) (Nat.le_of_ble_eq_true rfl) (by decide) (by decide) dX0_milkAll_35 ?_
      refine k_istore (lv' := [(5, .int (if ((rooms i) - (tk i)) < (milkF (bst i) dz (cw i)) then ((rooms i) - (tk i)) else (milkF (bst i) dz (cw i)))), (4, .int (milkF (bst i) dz (cw i))), (0, .ref h), (1, .int dz), (2, .int x), (3, .int (nI i))]) E (by decide) rfl dX0_milkAll_38 ?_
      refine k_aload_n E 2 rfl rfl dX0_milkAll_40 ?_
      refine k_get E inX0 0 rfl rfl 2 (by decide) q_36 rfl rfl dX0_milkAll_41 ?_
      refine k_iload_n E 5 rfl rfl dX0_milkAll_44 ?_
      refine k_dup2 E rfl rfl dX0_milkAll_45 ?_
      refine k_iald E (j := i) 2 0 rfl rfl rfl (by omega) (by decide) dX0_milkAll_46 ?_
      refine k_iload E 0 rfl dX0_milkAll_47 ?_
      refine k_iadd E dX0_milkAll_49 ?_
      refine k_iast (y := (tk i) + (if ((rooms i) - (tk i)) < (milkF (bst i) dz (cw i)) then ((rooms i) - (tk i)) else (milkF (bst i) dz (cw i)))) (j := i) (ws' := (wFA k h a0 a1 a2 a3 rr (nI nf) rooms (upd tk i ((tk i) + (if ((rooms i) - (tk i)) < (milkF (bst i) dz (cw i)) then ((rooms i) - (tk i)) else (milkF (bst i) dz (cw i))))) cows bst)) E 2 0 rfl rfl rfl (by omega) (by decide) rfl rfl dX0_milkAll_50 ?_
      refine k_iload_n E 4 rfl rfl dX0_milkAll_51 ?_
      refine k_iload E 1 rfl dX0_milkAll_52 ?_
      refine k_iload E 0 rfl dX0_milkAll_54 ?_
      refine k_isub E dX0_milkAll_56 ?_
      refine k_iadd E dX0_milkAll_57 ?_
      refine k_istore_n (lv' := [(2, .int (x + ((milkF (bst i) dz (cw i)) - (if ((rooms i) - (tk i)) < (milkF (bst i) dz (cw i)) then ((rooms i) - (tk i)) else (milkF (bst i) dz (cw i)))))), (5, .int (if ((rooms i) - (tk i)) < (milkF (bst i) dz (cw i)) then ((rooms i) - (tk i)) else (milkF (bst i) dz (cw i)))), (4, .int (milkF (bst i) dz (cw i))), (0, .ref h), (1, .int dz), (3, .int (nI i))]) E rfl (by decide) rfl dX0_milkAll_58 ?_
      refine k_iinc (q := 5) (v := nI (i + 1)) (lv' := [(3, .int (nI (i + 1))), (2, .int (x + ((milkF (bst i) dz (cw i)) - (if ((rooms i) - (tk i)) < (milkF (bst i) dz (cw i)) then ((rooms i) - (tk i)) else (milkF (bst i) dz (cw i)))))), (5, .int (if ((rooms i) - (tk i)) < (milkF (bst i) dz (cw i)) then ((rooms i) - (tk i)) else (milkF (bst i) dz (cw i)))), (4, .int (milkF (bst i) dz (cw i))), (0, .ref h), (1, .int dz)]) E rfl (nI_inc _) (by decide) rfl dX0_milkAll_59 ?_
      refine k_goto E (tgt := 4) (by decide) dX0_milkAll_62 ?_
      refine k_lv [4, 5, 1, 0] rfl ?_
      exact ih (i + 1) (upd tk i ((tk i) + (if ((rooms i) - (tk i)) < (milkF (bst i) dz (cw i)) then ((rooms i) - (tk i)) else (milkF (bst i) dz (cw i))))) (x + ((milkF (bst i) dz (cw i)) - (if ((rooms i) - (tk i)) < (milkF (bst i) dz (cw i)) then ((rooms i) - (tk i)) else (milkF (bst i) dz (cw i))))) (by omega) (by rw [ht, show tkF rooms tanks bst cw dz i i = tanks i from wr_at _ _ _ _]; exact wr_t (v := fun j => tanks j + kpt rooms tanks bst cw dz j) rfl) (by rw [hx, ht, show tkF rooms tanks bst cw dz i i = tanks i from wr_at _ _ _ _]; simp [poF, sI]; rfl)
  refine k_iconst E (v := 0) (by decide) dX0_milkAll_0 ?_
  refine k_istore_n (lv' := [(2, .int 0), (0, .ref h), (1, .int dz)]) E rfl (by decide) rfl dX0_milkAll_1 ?_
  refine k_iconst E (v := 0) (by decide) dX0_milkAll_2 ?_
  refine k_istore_n (lv' := [(3, .int 0), (2, .int 0), (0, .ref h), (1, .int dz)]) E rfl (by decide) rfl dX0_milkAll_3 ?_
  refine k_lv [2, 3, 1, 0] rfl ?_
  exact L4 (nf - 0) 0 tanks 0 (by omega) (wr_0 _ _ _).symm rfl
end
