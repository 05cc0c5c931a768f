def lw_all : List Cond := lw_tbl.filter goodWord
theorem lw_all_tbl {w : Cond} (h : w ∈ lw_all) : w ∈ lw_tbl := (List.mem_filter.mp h).1
theorem lw_all_good : GoodIn lw_all lw_all := fun w h => ⟨h, good_of_word (List.mem_filter.mp h).2⟩
theorem qs_0 : Cond.selects "MilkRound$Samples" yX1_litresIn yX1_litresIn ∈ lw_all := List.mem_filter.mpr ⟨List.mem_of_getElem? (i := 0) (by decide +kernel), by decide +kernel⟩
theorem qs_1 : Cond.selects "MilkRound$Samples" yX1_isIn yX1_isIn ∈ lw_all := List.mem_filter.mpr ⟨List.mem_of_getElem? (i := 1) (by decide +kernel), by decide +kernel⟩
theorem qs_2 : Cond.selects "java/lang/Throwable" ⟨"java/lang/Throwable", "fillInStackTrace", "(I)Ljava/lang/Throwable;"⟩ ⟨"java/lang/Throwable", "fillInStackTrace", "(I)Ljava/lang/Throwable;"⟩ ∈ lw_all := List.mem_filter.mpr ⟨List.mem_of_getElem? (i := 2) (by decide +kernel), by decide +kernel⟩
theorem qs_3 : Cond.selects "MilkRound$Farms" yX0_add yX0_add ∈ lw_all := List.mem_filter.mpr ⟨List.mem_of_getElem? (i := 3) (by decide +kernel), by decide +kernel⟩
theorem qs_4 : Cond.selects "MilkRound" yX2_requireFarm yX2_requireFarm ∈ lw_all := List.mem_filter.mpr ⟨List.mem_of_getElem? (i := 4) (by decide +kernel), by decide +kernel⟩
theorem qs_5 : Cond.selects "MilkRound$Farms" yX0_addCowTo yX0_addCowTo ∈ lw_all := List.mem_filter.mpr ⟨List.mem_of_getElem? (i := 5) (by decide +kernel), by decide +kernel⟩
theorem qs_6 : Cond.selects "MilkRound$Farms" yX0_milkOn yX0_milkOn ∈ lw_all := List.mem_filter.mpr ⟨List.mem_of_getElem? (i := 6) (by decide +kernel), by decide +kernel⟩
theorem qs_7 : Cond.selects "MilkRound$Farms" yX0_milkAll yX0_milkAll ∈ lw_all := List.mem_filter.mpr ⟨List.mem_of_getElem? (i := 7) (by decide +kernel), by decide +kernel⟩
theorem qs_8 : Cond.selects "MilkRound$Farms" yX0_draw yX0_draw ∈ lw_all := List.mem_filter.mpr ⟨List.mem_of_getElem? (i := 8) (by decide +kernel), by decide +kernel⟩
theorem qs_9 : Cond.selects "MilkRound$Samples" yX1_add yX1_add ∈ lw_all := List.mem_filter.mpr ⟨List.mem_of_getElem? (i := 9) (by decide +kernel), by decide +kernel⟩
theorem qs_10 : Cond.selects "MilkRound" yX2_requireVat yX2_requireVat ∈ lw_all := List.mem_filter.mpr ⟨List.mem_of_getElem? (i := 10) (by decide +kernel), by decide +kernel⟩
theorem qs_11 : Cond.selects "MilkRound" yX2_freeRoom yX2_freeRoom ∈ lw_all := List.mem_filter.mpr ⟨List.mem_of_getElem? (i := 11) (by decide +kernel), by decide +kernel⟩
theorem qs_12 : Cond.selects "MilkRound$Samples" yX1_countIn yX1_countIn ∈ lw_all := List.mem_filter.mpr ⟨List.mem_of_getElem? (i := 12) (by decide +kernel), by decide +kernel⟩
theorem qs_13 : Cond.selects "MilkRound$Samples" yX1_move yX1_move ∈ lw_all := List.mem_filter.mpr ⟨List.mem_of_getElem? (i := 13) (by decide +kernel), by decide +kernel⟩
theorem qs_14 : Cond.selects "MilkRound$Samples" yX1_settle yX1_settle ∈ lw_all := List.mem_filter.mpr ⟨List.mem_of_getElem? (i := 14) (by decide +kernel), by decide +kernel⟩
theorem qs_15 : Cond.selects "MilkRound$Samples" yX1_isGraded yX1_isGraded ∈ lw_all := List.mem_filter.mpr ⟨List.mem_of_getElem? (i := 15) (by decide +kernel), by decide +kernel⟩
theorem qs_16 : Cond.selects "MilkRound$Samples" yX1_spoiltLitres yX1_spoiltLitres ∈ lw_all := List.mem_filter.mpr ⟨List.mem_of_getElem? (i := 16) (by decide +kernel), by decide +kernel⟩
theorem qs_17 : Cond.selects "MilkRound$Samples" yX1_isSpoiltIn yX1_isSpoiltIn ∈ lw_all := List.mem_filter.mpr ⟨List.mem_of_getElem? (i := 17) (by decide +kernel), by decide +kernel⟩
theorem qs_18 : Cond.selects "MilkRound$Samples" yX1_settleBlame yX1_settleBlame ∈ lw_all := List.mem_filter.mpr ⟨List.mem_of_getElem? (i := 18) (by decide +kernel), by decide +kernel⟩
theorem qs_19 : Cond.selects "MilkRound$Samples" yX1_valueOf yX1_valueOf ∈ lw_all := List.mem_filter.mpr ⟨List.mem_of_getElem? (i := 19) (by decide +kernel), by decide +kernel⟩
theorem qs_20 : Cond.selects "MilkRound$Samples" yX1_valueOfSample yX1_valueOfSample ∈ lw_all := List.mem_filter.mpr ⟨List.mem_of_getElem? (i := 20) (by decide +kernel), by decide +kernel⟩
theorem qs_21 : Cond.selects "MilkRound$Samples" yX1_settlePay yX1_settlePay ∈ lw_all := List.mem_filter.mpr ⟨List.mem_of_getElem? (i := 21) (by decide +kernel), by decide +kernel⟩
theorem qs_22 : Cond.selects "MilkRound" yX2_requireSample yX2_requireSample ∈ lw_all := List.mem_filter.mpr ⟨List.mem_of_getElem? (i := 22) (by decide +kernel), by decide +kernel⟩
theorem qs_23 : Cond.selects "MilkRound$Samples" yX1_ungraded yX1_ungraded ∈ lw_all := List.mem_filter.mpr ⟨List.mem_of_getElem? (i := 23) (by decide +kernel), by decide +kernel⟩
theorem qs_24 : Cond.selects "MilkRound" yX2_requireBatch yX2_requireBatch ∈ lw_all := List.mem_filter.mpr ⟨List.mem_of_getElem? (i := 24) (by decide +kernel), by decide +kernel⟩
theorem qs_25 : Cond.selects "MilkRound$Samples" yX1_isSpoilt yX1_isSpoilt ∈ lw_all := List.mem_filter.mpr ⟨List.mem_of_getElem? (i := 25) (by decide +kernel), by decide +kernel⟩
theorem qs_26 : Cond.selects "MilkRound$Samples" yX1_shareAt yX1_shareAt ∈ lw_all := List.mem_filter.mpr ⟨List.mem_of_getElem? (i := 26) (by decide +kernel), by decide +kernel⟩
theorem qs_27 : Cond.selects "MilkRound" yX2_requireGradedBatch yX2_requireGradedBatch ∈ lw_all := List.mem_filter.mpr ⟨List.mem_of_getElem? (i := 27) (by decide +kernel), by decide +kernel⟩
theorem qs_28 : Cond.selects "MilkRound$Samples" yX1_payOfAll yX1_payOfAll ∈ lw_all := List.mem_filter.mpr ⟨List.mem_of_getElem? (i := 28) (by decide +kernel), by decide +kernel⟩
theorem qs_29 : Cond.selects "MilkRound$Samples" yX1_lossOf yX1_lossOf ∈ lw_all := List.mem_filter.mpr ⟨List.mem_of_getElem? (i := 29) (by decide +kernel), by decide +kernel⟩
theorem qs_30 : Cond.selects "MilkRound$Samples" yX1_paidTo yX1_paidTo ∈ lw_all := List.mem_filter.mpr ⟨List.mem_of_getElem? (i := 30) (by decide +kernel), by decide +kernel⟩
theorem qs_31 : Cond.selects "MilkRound$Samples" yX1_blamedOn yX1_blamedOn ∈ lw_all := List.mem_filter.mpr ⟨List.mem_of_getElem? (i := 31) (by decide +kernel), by decide +kernel⟩
theorem qs_32 : Cond.selects "MilkRound$Samples" yX1_balanceOf yX1_balanceOf ∈ lw_all := List.mem_filter.mpr ⟨List.mem_of_getElem? (i := 32) (by decide +kernel), by decide +kernel⟩
theorem qs_33 : Cond.selects "MilkRound$Samples" yX1_allLitres yX1_allLitres ∈ lw_all := List.mem_filter.mpr ⟨List.mem_of_getElem? (i := 33) (by decide +kernel), by decide +kernel⟩
theorem qs_34 : Cond.selects "MilkRoundModel" yX3_isFarm yX3_isFarm ∈ lw_all := List.mem_filter.mpr ⟨List.mem_of_getElem? (i := 34) (by decide +kernel), by decide +kernel⟩
theorem qs_35 : Cond.selects "MilkRoundModel" yX3_isVat yX3_isVat ∈ lw_all := List.mem_filter.mpr ⟨List.mem_of_getElem? (i := 35) (by decide +kernel), by decide +kernel⟩
theorem qs_36 : Cond.selects "MilkRoundModel" yX3_onWay yX3_onWay ∈ lw_all := List.mem_filter.mpr ⟨List.mem_of_getElem? (i := 36) (by decide +kernel), by decide +kernel⟩
theorem qs_37 : Cond.selects "MilkRoundModel" yX3_isSample yX3_isSample ∈ lw_all := List.mem_filter.mpr ⟨List.mem_of_getElem? (i := 37) (by decide +kernel), by decide +kernel⟩
theorem qs_38 : Cond.selects "MilkRoundModel" yX3_isBatch yX3_isBatch ∈ lw_all := List.mem_filter.mpr ⟨List.mem_of_getElem? (i := 38) (by decide +kernel), by decide +kernel⟩
theorem qs_39 : Cond.selects "MilkRoundModel" yX3_has yX3_has ∈ lw_all := List.mem_filter.mpr ⟨List.mem_of_getElem? (i := 39) (by decide +kernel), by decide +kernel⟩
theorem qs_40 : Cond.selects "MilkRoundModel" yX3_isGraded yX3_isGraded ∈ lw_all := List.mem_filter.mpr ⟨List.mem_of_getElem? (i := 40) (by decide +kernel), by decide +kernel⟩
theorem qs_41 : Cond.selects "MilkRoundModel" yX3_payOf yX3_payOf ∈ lw_all := List.mem_filter.mpr ⟨List.mem_of_getElem? (i := 41) (by decide +kernel), by decide +kernel⟩
theorem qs_42 : Cond.selects "MilkRoundModel" yX3_worthOf yX3_worthOf ∈ lw_all := List.mem_filter.mpr ⟨List.mem_of_getElem? (i := 42) (by decide +kernel), by decide +kernel⟩
theorem qs_43 : Cond.selects "MilkRoundModel" yX3_lossOf yX3_lossOf ∈ lw_all := List.mem_filter.mpr ⟨List.mem_of_getElem? (i := 43) (by decide +kernel), by decide +kernel⟩
theorem qs_44 : Cond.selects "MilkRoundModel" yX3_counts yX3_counts ∈ lw_all := List.mem_filter.mpr ⟨List.mem_of_getElem? (i := 44) (by decide +kernel), by decide +kernel⟩
theorem qs_45 : Cond.selects "MilkRoundModel" yX3_blameOf yX3_blameOf ∈ lw_all := List.mem_filter.mpr ⟨List.mem_of_getElem? (i := 45) (by decide +kernel), by decide +kernel⟩
theorem q_0 : (Cond.initialized "MilkRoundLaw") ∈ lw_all := List.mem_filter.mpr ⟨List.mem_of_getElem? (i := 46) (by decide +kernel), by decide +kernel⟩
theorem q_1 : (Cond.initialized "MilkRound") ∈ lw_all := List.mem_filter.mpr ⟨List.mem_of_getElem? (i := 47) (by decide +kernel), by decide +kernel⟩
theorem q_2 : (Cond.initialized "MilkRound$Farms") ∈ lw_all := List.mem_filter.mpr ⟨List.mem_of_getElem? (i := 48) (by decide +kernel), by decide +kernel⟩
theorem q_3 : (Cond.initialized "MilkRound$Samples") ∈ lw_all := List.mem_filter.mpr ⟨List.mem_of_getElem? (i := 49) (by decide +kernel), by decide +kernel⟩
theorem q_4 : (Cond.initialized "MilkRoundModel") ∈ lw_all := List.mem_filter.mpr ⟨List.mem_of_getElem? (i := 50) (by decide +kernel), by decide +kernel⟩
theorem q_5 : (Cond.initialized "java/lang/Throwable") ∈ lw_all := List.mem_filter.mpr ⟨List.mem_of_getElem? (i := 51) (by decide +kernel), by decide +kernel⟩
theorem q_6 : (Cond.initialized "java/lang/Exception") ∈ lw_all := List.mem_filter.mpr ⟨List.mem_of_getElem? (i := 52) (by decide +kernel), by decide +kernel⟩
theorem q_7 : (Cond.initialized "java/lang/RuntimeException") ∈ lw_all := List.mem_filter.mpr ⟨List.mem_of_getElem? (i := 53) (by decide +kernel), by decide +kernel⟩
theorem q_8 : (Cond.initialized "java/lang/IllegalArgumentException") ∈ lw_all := List.mem_filter.mpr ⟨List.mem_of_getElem? (i := 54) (by decide +kernel), by decide +kernel⟩
theorem q_9 : (Cond.initialized "java/lang/IllegalStateException") ∈ lw_all := List.mem_filter.mpr ⟨List.mem_of_getElem? (i := 55) (by decide +kernel), by decide +kernel⟩
theorem q_10 : (Cond.initialized "java/lang/IndexOutOfBoundsException") ∈ lw_all := List.mem_filter.mpr ⟨List.mem_of_getElem? (i := 56) (by decide +kernel), by decide +kernel⟩
theorem q_11 : (Cond.initialized "java/lang/ArrayIndexOutOfBoundsException") ∈ lw_all := List.mem_filter.mpr ⟨List.mem_of_getElem? (i := 57) (by decide +kernel), by decide +kernel⟩
theorem q_12 : (Cond.initialized "java/lang/String") ∈ lw_all := List.mem_filter.mpr ⟨List.mem_of_getElem? (i := 58) (by decide +kernel), by decide +kernel⟩
theorem q_13 : (Cond.initialized "java/lang/Math") ∈ lw_all := List.mem_filter.mpr ⟨List.mem_of_getElem? (i := 59) (by decide +kernel), by decide +kernel⟩
theorem q_14 : (Cond.initialized "java/lang/UnsupportedOperationException") ∈ lw_all := List.mem_filter.mpr ⟨List.mem_of_getElem? (i := 60) (by decide +kernel), by decide +kernel⟩
theorem q_15 : (Cond.initialized "java/util/NoSuchElementException") ∈ lw_all := List.mem_filter.mpr ⟨List.mem_of_getElem? (i := 61) (by decide +kernel), by decide +kernel⟩
theorem q_16 : (Cond.initialized "java/lang/ArithmeticException") ∈ lw_all := List.mem_filter.mpr ⟨List.mem_of_getElem? (i := 62) (by decide +kernel), by decide +kernel⟩
theorem q_17 : (Cond.classLink "MilkRoundLaw" (8 : Nat) "MilkRound") ∈ lw_all := List.mem_filter.mpr ⟨List.mem_of_getElem? (i := 63) (by decide +kernel), by decide +kernel⟩
theorem q_18 : (Cond.instantiable "MilkRound" (9 : Nat)) ∈ lw_all := List.mem_filter.mpr ⟨List.mem_of_getElem? (i := 64) (by decide +kernel), by decide +kernel⟩
theorem q_19 : (Cond.methodLink "MilkRoundLaw" (107 : Nat) yX2_init) ∈ lw_all := List.mem_filter.mpr ⟨List.mem_of_getElem? (i := 65) (by decide +kernel), by decide +kernel⟩
theorem q_20 : (Cond.instanceMethod yX2_init) ∈ lw_all := List.mem_filter.mpr ⟨List.mem_of_getElem? (i := 66) (by decide +kernel), by decide +kernel⟩
theorem q_21 : (Cond.code yX2_init prog_1_method_1_code (1 : Nat) (Option.none : Option Jvm.ClassFile.FieldType)) ∈ lw_all := List.mem_filter.mpr ⟨List.mem_of_getElem? (i := 67) (by decide +kernel), by decide +kernel⟩
theorem q_22 : (Cond.methodLink "MilkRound" (1 : Nat) ⟨"java/lang/Object", "<init>", "()V"⟩) ∈ lw_all := List.mem_filter.mpr ⟨List.mem_of_getElem? (i := 68) (by decide +kernel), by decide +kernel⟩
theorem q_23 : (Cond.instanceMethod ⟨"java/lang/Object", "<init>", "()V"⟩) ∈ lw_all := List.mem_filter.mpr ⟨List.mem_of_getElem? (i := 69) (by decide +kernel), by decide +kernel⟩
theorem q_24 : (Cond.code ⟨"java/lang/Object", "<init>", "()V"⟩ object_method_1_code (1 : Nat) (Option.none : Option Jvm.ClassFile.FieldType)) ∈ lw_all := List.mem_filter.mpr ⟨List.mem_of_getElem? (i := 70) (by decide +kernel), by decide +kernel⟩
theorem q_25 : (Cond.classLink "MilkRound" (13 : Nat) "MilkRound$Farms") ∈ lw_all := List.mem_filter.mpr ⟨List.mem_of_getElem? (i := 71) (by decide +kernel), by decide +kernel⟩
theorem q_26 : (Cond.instantiable "MilkRound$Farms" (5 : Nat)) ∈ lw_all := List.mem_filter.mpr ⟨List.mem_of_getElem? (i := 72) (by decide +kernel), by decide +kernel⟩
theorem q_28 : (Cond.instanceMethod yX0_init) ∈ lw_all := List.mem_filter.mpr ⟨List.mem_of_getElem? (i := 74) (by decide +kernel), by decide +kernel⟩
theorem q_29 : (Cond.code yX0_init prog_2_method_1_code (1 : Nat) (Option.none : Option Jvm.ClassFile.FieldType)) ∈ lw_all := List.mem_filter.mpr ⟨List.mem_of_getElem? (i := 75) (by decide +kernel), by decide +kernel⟩
theorem q_30 : (Cond.methodLink "MilkRound$Farms" (3 : Nat) ⟨"java/lang/Object", "<init>", "()V"⟩) ∈ lw_all := List.mem_filter.mpr ⟨List.mem_of_getElem? (i := 76) (by decide +kernel), by decide +kernel⟩
theorem q_31 : (Cond.classLink "MilkRound$Farms" (25 : Nat) "[[I") ∈ lw_all := List.mem_filter.mpr ⟨List.mem_of_getElem? (i := 77) (by decide +kernel), by decide +kernel⟩
theorem q_33 : (Cond.fieldLink "MilkRound$Farms" (9 : Nat) "MilkRound$Farms" "count" "I") ∈ lw_all := List.mem_filter.mpr ⟨List.mem_of_getElem? (i := 79) (by decide +kernel), by decide +kernel⟩
theorem q_35 : (Cond.fieldLink "MilkRound$Farms" (15 : Nat) "MilkRound$Farms" "rooms" "[I") ∈ lw_all := List.mem_filter.mpr ⟨List.mem_of_getElem? (i := 81) (by decide +kernel), by decide +kernel⟩
theorem q_36 : (Cond.fieldLink "MilkRound$Farms" (19 : Nat) "MilkRound$Farms" "tanks" "[I") ∈ lw_all := List.mem_filter.mpr ⟨List.mem_of_getElem? (i := 82) (by decide +kernel), by decide +kernel⟩
theorem q_38 : (Cond.fieldLink "MilkRound$Farms" (22 : Nat) "MilkRound$Farms" "cows" "[I") ∈ lw_all := List.mem_filter.mpr ⟨List.mem_of_getElem? (i := 84) (by decide +kernel), by decide +kernel⟩
theorem q_40 : (Cond.fieldLink "MilkRound$Farms" (27 : Nat) "MilkRound$Farms" "bests" "[[I") ∈ lw_all := List.mem_filter.mpr ⟨List.mem_of_getElem? (i := 86) (by decide +kernel), by decide +kernel⟩
theorem q_41 : (Cond.lays "MilkRound$Farms" "MilkRound$Farms" "count" "I") ∈ lw_all := List.mem_filter.mpr ⟨List.mem_of_getElem? (i := 87) (by decide +kernel), by decide +kernel⟩
theorem q_43 : (Cond.laysFinal "MilkRound$Farms" "MilkRound$Farms" "rooms" "[I") ∈ lw_all := List.mem_filter.mpr ⟨List.mem_of_getElem? (i := 89) (by decide +kernel), by decide +kernel⟩
theorem q_45 : (Cond.laysFinal "MilkRound$Farms" "MilkRound$Farms" "tanks" "[I") ∈ lw_all := List.mem_filter.mpr ⟨List.mem_of_getElem? (i := 91) (by decide +kernel), by decide +kernel⟩
theorem q_47 : (Cond.laysFinal "MilkRound$Farms" "MilkRound$Farms" "cows" "[I") ∈ lw_all := List.mem_filter.mpr ⟨List.mem_of_getElem? (i := 93) (by decide +kernel), by decide +kernel⟩
theorem q_49 : (Cond.laysFinal "MilkRound$Farms" "MilkRound$Farms" "bests" "[[I") ∈ lw_all := List.mem_filter.mpr ⟨List.mem_of_getElem? (i := 95) (by decide +kernel), by decide +kernel⟩
theorem q_52 : (Cond.arrayClass Jvm.ClassFile.FieldType.int) ∈ lw_all := List.mem_filter.mpr ⟨List.mem_of_getElem? (i := 98) (by decide +kernel), by decide +kernel⟩
theorem q_53 : (Cond.classLink "MilkRound" (38 : Nat) "MilkRound$Samples") ∈ lw_all := List.mem_filter.mpr ⟨List.mem_of_getElem? (i := 99) (by decide +kernel), by decide +kernel⟩
theorem q_54 : (Cond.instantiable "MilkRound$Samples" (8 : Nat)) ∈ lw_all := List.mem_filter.mpr ⟨List.mem_of_getElem? (i := 100) (by decide +kernel), by decide +kernel⟩
theorem q_56 : (Cond.instanceMethod yX1_init) ∈ lw_all := List.mem_filter.mpr ⟨List.mem_of_getElem? (i := 102) (by decide +kernel), by decide +kernel⟩
theorem q_57 : (Cond.code yX1_init prog_3_method_1_code (1 : Nat) (Option.none : Option Jvm.ClassFile.FieldType)) ∈ lw_all := List.mem_filter.mpr ⟨List.mem_of_getElem? (i := 103) (by decide +kernel), by decide +kernel⟩
theorem q_58 : (Cond.methodLink "MilkRound$Samples" (3 : Nat) ⟨"java/lang/Object", "<init>", "()V"⟩) ∈ lw_all := List.mem_filter.mpr ⟨List.mem_of_getElem? (i := 104) (by decide +kernel), by decide +kernel⟩
theorem q_59 : (Cond.fieldLink "MilkRound$Samples" (9 : Nat) "MilkRound$Samples" "count" "I") ∈ lw_all := List.mem_filter.mpr ⟨List.mem_of_getElem? (i := 105) (by decide +kernel), by decide +kernel⟩
theorem q_61 : (Cond.fieldLink "MilkRound$Samples" (15 : Nat) "MilkRound$Samples" "farm" "[I") ∈ lw_all := List.mem_filter.mpr ⟨List.mem_of_getElem? (i := 107) (by decide +kernel), by decide +kernel⟩
theorem q_63 : (Cond.fieldLink "MilkRound$Samples" (19 : Nat) "MilkRound$Samples" "amount" "[I") ∈ lw_all := List.mem_filter.mpr ⟨List.mem_of_getElem? (i := 109) (by decide +kernel), by decide +kernel⟩
theorem q_65 : (Cond.fieldLink "MilkRound$Samples" (22 : Nat) "MilkRound$Samples" "mark" "[C") ∈ lw_all := List.mem_filter.mpr ⟨List.mem_of_getElem? (i := 111) (by decide +kernel), by decide +kernel⟩
theorem q_67 : (Cond.fieldLink "MilkRound$Samples" (26 : Nat) "MilkRound$Samples" "place" "[C") ∈ lw_all := List.mem_filter.mpr ⟨List.mem_of_getElem? (i := 113) (by decide +kernel), by decide +kernel⟩
theorem q_69 : (Cond.fieldLink "MilkRound$Samples" (29 : Nat) "MilkRound$Samples" "number" "[I") ∈ lw_all := List.mem_filter.mpr ⟨List.mem_of_getElem? (i := 115) (by decide +kernel), by decide +kernel⟩
theorem q_71 : (Cond.fieldLink "MilkRound$Samples" (32 : Nat) "MilkRound$Samples" "paid" "[I") ∈ lw_all := List.mem_filter.mpr ⟨List.mem_of_getElem? (i := 117) (by decide +kernel), by decide +kernel⟩
theorem q_72 : (Cond.fieldLink "MilkRound$Samples" (35 : Nat) "MilkRound$Samples" "blamed" "[I") ∈ lw_all := List.mem_filter.mpr ⟨List.mem_of_getElem? (i := 118) (by decide +kernel), by decide +kernel⟩
theorem q_73 : (Cond.lays "MilkRound$Samples" "MilkRound$Samples" "count" "I") ∈ lw_all := List.mem_filter.mpr ⟨List.mem_of_getElem? (i := 119) (by decide +kernel), by decide +kernel⟩
theorem q_75 : (Cond.laysFinal "MilkRound$Samples" "MilkRound$Samples" "farm" "[I") ∈ lw_all := List.mem_filter.mpr ⟨List.mem_of_getElem? (i := 121) (by decide +kernel), by decide +kernel⟩
theorem q_77 : (Cond.laysFinal "MilkRound$Samples" "MilkRound$Samples" "amount" "[I") ∈ lw_all := List.mem_filter.mpr ⟨List.mem_of_getElem? (i := 123) (by decide +kernel), by decide +kernel⟩
theorem q_79 : (Cond.laysFinal "MilkRound$Samples" "MilkRound$Samples" "mark" "[C") ∈ lw_all := List.mem_filter.mpr ⟨List.mem_of_getElem? (i := 125) (by decide +kernel), by decide +kernel⟩
theorem q_81 : (Cond.laysFinal "MilkRound$Samples" "MilkRound$Samples" "place" "[C") ∈ lw_all := List.mem_filter.mpr ⟨List.mem_of_getElem? (i := 127) (by decide +kernel), by decide +kernel⟩
theorem q_83 : (Cond.laysFinal "MilkRound$Samples" "MilkRound$Samples" "number" "[I") ∈ lw_all := List.mem_filter.mpr ⟨List.mem_of_getElem? (i := 129) (by decide +kernel), by decide +kernel⟩
theorem q_85 : (Cond.laysFinal "MilkRound$Samples" "MilkRound$Samples" "paid" "[I") ∈ lw_all := List.mem_filter.mpr ⟨List.mem_of_getElem? (i := 131) (by decide +kernel), by decide +kernel⟩
theorem q_87 : (Cond.laysFinal "MilkRound$Samples" "MilkRound$Samples" "blamed" "[I") ∈ lw_all := List.mem_filter.mpr ⟨List.mem_of_getElem? (i := 133) (by decide +kernel), by decide +kernel⟩
theorem q_90 : (Cond.arrayClass Jvm.ClassFile.FieldType.boolean) ∈ lw_all := List.mem_filter.mpr ⟨List.mem_of_getElem? (i := 136) (by decide +kernel), by decide +kernel⟩
theorem q_91 : (Cond.arrayClass Jvm.ClassFile.FieldType.char) ∈ lw_all := List.mem_filter.mpr ⟨List.mem_of_getElem? (i := 137) (by decide +kernel), by decide +kernel⟩
theorem q_92 : (Cond.fieldLink "MilkRound" (7 : Nat) "MilkRound" "today" "I") ∈ lw_all := List.mem_filter.mpr ⟨List.mem_of_getElem? (i := 138) (by decide +kernel), by decide +kernel⟩
theorem q_93 : (Cond.fieldLink "MilkRound" (16 : Nat) "MilkRound" "farms" "LMilkRound$Farms;") ∈ lw_all := List.mem_filter.mpr ⟨List.mem_of_getElem? (i := 139) (by decide +kernel), by decide +kernel⟩
theorem q_94 : (Cond.fieldLink "MilkRound" (20 : Nat) "MilkRound" "vatCount" "I") ∈ lw_all := List.mem_filter.mpr ⟨List.mem_of_getElem? (i := 140) (by decide +kernel), by decide +kernel⟩
theorem q_95 : (Cond.fieldLink "MilkRound" (23 : Nat) "MilkRound" "vatRooms" "[I") ∈ lw_all := List.mem_filter.mpr ⟨List.mem_of_getElem? (i := 141) (by decide +kernel), by decide +kernel⟩
theorem q_96 : (Cond.fieldLink "MilkRound" (27 : Nat) "MilkRound" "rounds" "I") ∈ lw_all := List.mem_filter.mpr ⟨List.mem_of_getElem? (i := 142) (by decide +kernel), by decide +kernel⟩
theorem q_97 : (Cond.fieldLink "MilkRound" (30 : Nat) "MilkRound" "roundUnderWay" "Z") ∈ lw_all := List.mem_filter.mpr ⟨List.mem_of_getElem? (i := 143) (by decide +kernel), by decide +kernel⟩
theorem q_98 : (Cond.fieldLink "MilkRound" (34 : Nat) "MilkRound" "visited" "[Z") ∈ lw_all := List.mem_filter.mpr ⟨List.mem_of_getElem? (i := 144) (by decide +kernel), by decide +kernel⟩
theorem q_99 : (Cond.fieldLink "MilkRound" (41 : Nat) "MilkRound" "taken" "LMilkRound$Samples;") ∈ lw_all := List.mem_filter.mpr ⟨List.mem_of_getElem? (i := 145) (by decide +kernel), by decide +kernel⟩
theorem q_100 : (Cond.fieldLink "MilkRound" (45 : Nat) "MilkRound" "batchCount" "I") ∈ lw_all := List.mem_filter.mpr ⟨List.mem_of_getElem? (i := 146) (by decide +kernel), by decide +kernel⟩
theorem q_101 : (Cond.lays "MilkRound" "MilkRound" "today" "I") ∈ lw_all := List.mem_filter.mpr ⟨List.mem_of_getElem? (i := 147) (by decide +kernel), by decide +kernel⟩
theorem q_103 : (Cond.laysFinal "MilkRound" "MilkRound" "farms" "LMilkRound$Farms;") ∈ lw_all := List.mem_filter.mpr ⟨List.mem_of_getElem? (i := 149) (by decide +kernel), by decide +kernel⟩
theorem q_105 : (Cond.lays "MilkRound" "MilkRound" "vatCount" "I") ∈ lw_all := List.mem_filter.mpr ⟨List.mem_of_getElem? (i := 151) (by decide +kernel), by decide +kernel⟩
theorem q_107 : (Cond.laysFinal "MilkRound" "MilkRound" "vatRooms" "[I") ∈ lw_all := List.mem_filter.mpr ⟨List.mem_of_getElem? (i := 153) (by decide +kernel), by decide +kernel⟩
theorem q_109 : (Cond.lays "MilkRound" "MilkRound" "rounds" "I") ∈ lw_all := List.mem_filter.mpr ⟨List.mem_of_getElem? (i := 155) (by decide +kernel), by decide +kernel⟩
theorem q_111 : (Cond.lays "MilkRound" "MilkRound" "roundUnderWay" "Z") ∈ lw_all := List.mem_filter.mpr ⟨List.mem_of_getElem? (i := 157) (by decide +kernel), by decide +kernel⟩
theorem q_113 : (Cond.laysFinal "MilkRound" "MilkRound" "visited" "[Z") ∈ lw_all := List.mem_filter.mpr ⟨List.mem_of_getElem? (i := 159) (by decide +kernel), by decide +kernel⟩
theorem q_115 : (Cond.laysFinal "MilkRound" "MilkRound" "taken" "LMilkRound$Samples;") ∈ lw_all := List.mem_filter.mpr ⟨List.mem_of_getElem? (i := 161) (by decide +kernel), by decide +kernel⟩
theorem q_117 : (Cond.lays "MilkRound" "MilkRound" "batchCount" "I") ∈ lw_all := List.mem_filter.mpr ⟨List.mem_of_getElem? (i := 163) (by decide +kernel), by decide +kernel⟩
theorem q_120 : (Cond.methodLink "MilkRoundLaw" (133 : Nat) yX2_day) ∈ lw_all := List.mem_filter.mpr ⟨List.mem_of_getElem? (i := 166) (by decide +kernel), by decide +kernel⟩
theorem q_121 : (Cond.instanceMethod yX2_day) ∈ lw_all := List.mem_filter.mpr ⟨List.mem_of_getElem? (i := 167) (by decide +kernel), by decide +kernel⟩
theorem q_122 : (Cond.selects "MilkRound" yX2_day yX2_day) ∈ lw_all := List.mem_filter.mpr ⟨List.mem_of_getElem? (i := 168) (by decide +kernel), by decide +kernel⟩
theorem q_123 : (Cond.code yX2_day prog_1_method_7_code (1 : Nat) (Option.some Jvm.ClassFile.FieldType.int)) ∈ lw_all := List.mem_filter.mpr ⟨List.mem_of_getElem? (i := 169) (by decide +kernel), by decide +kernel⟩
theorem q_124 : (Cond.methodLink "MilkRoundLaw" (150 : Nat) yX2_inTanker) ∈ lw_all := List.mem_filter.mpr ⟨List.mem_of_getElem? (i := 170) (by decide +kernel), by decide +kernel⟩
theorem q_125 : (Cond.instanceMethod yX2_inTanker) ∈ lw_all := List.mem_filter.mpr ⟨List.mem_of_getElem? (i := 171) (by decide +kernel), by decide +kernel⟩
theorem q_126 : (Cond.selects "MilkRound" yX2_inTanker yX2_inTanker) ∈ lw_all := List.mem_filter.mpr ⟨List.mem_of_getElem? (i := 172) (by decide +kernel), by decide +kernel⟩
theorem q_127 : (Cond.code yX2_inTanker prog_1_method_12_code (1 : Nat) (Option.some Jvm.ClassFile.FieldType.int)) ∈ lw_all := List.mem_filter.mpr ⟨List.mem_of_getElem? (i := 173) (by decide +kernel), by decide +kernel⟩
theorem q_130 : (Cond.instanceMethod yX1_litresIn) ∈ lw_all := List.mem_filter.mpr ⟨List.mem_of_getElem? (i := 176) (by decide +kernel), by decide +kernel⟩
theorem q_131 : (Cond.code yX1_litresIn prog_3_method_6_code (5 : Nat) (Option.some Jvm.ClassFile.FieldType.int)) ∈ lw_all := List.mem_filter.mpr ⟨List.mem_of_getElem? (i := 177) (by decide +kernel), by decide +kernel⟩
theorem q_132 : (Cond.methodLink "MilkRound$Samples" (38 : Nat) yX1_isIn) ∈ lw_all := List.mem_filter.mpr ⟨List.mem_of_getElem? (i := 178) (by decide +kernel), by decide +kernel⟩
theorem q_134 : (Cond.instanceMethod yX1_isIn) ∈ lw_all := List.mem_filter.mpr ⟨List.mem_of_getElem? (i := 180) (by decide +kernel), by decide +kernel⟩
theorem q_135 : (Cond.code yX1_isIn prog_3_method_3_code (4 : Nat) (Option.some Jvm.ClassFile.FieldType.boolean)) ∈ lw_all := List.mem_filter.mpr ⟨List.mem_of_getElem? (i := 181) (by decide +kernel), by decide +kernel⟩
theorem q_136 : (Cond.methodLink "MilkRoundLaw" (163 : Nat) yX2_samples) ∈ lw_all := List.mem_filter.mpr ⟨List.mem_of_getElem? (i := 182) (by decide +kernel), by decide +kernel⟩
theorem q_137 : (Cond.instanceMethod yX2_samples) ∈ lw_all := List.mem_filter.mpr ⟨List.mem_of_getElem? (i := 183) (by decide +kernel), by decide +kernel⟩
theorem q_138 : (Cond.selects "MilkRound" yX2_samples yX2_samples) ∈ lw_all := List.mem_filter.mpr ⟨List.mem_of_getElem? (i := 184) (by decide +kernel), by decide +kernel⟩
theorem q_139 : (Cond.code yX2_samples prog_1_method_16_code (1 : Nat) (Option.some Jvm.ClassFile.FieldType.int)) ∈ lw_all := List.mem_filter.mpr ⟨List.mem_of_getElem? (i := 185) (by decide +kernel), by decide +kernel⟩
theorem q_140 : (Cond.methodLink "MilkRoundLaw" (180 : Nat) yX2_batches) ∈ lw_all := List.mem_filter.mpr ⟨List.mem_of_getElem? (i := 186) (by decide +kernel), by decide +kernel⟩
theorem q_141 : (Cond.instanceMethod yX2_batches) ∈ lw_all := List.mem_filter.mpr ⟨List.mem_of_getElem? (i := 187) (by decide +kernel), by decide +kernel⟩
theorem q_142 : (Cond.selects "MilkRound" yX2_batches yX2_batches) ∈ lw_all := List.mem_filter.mpr ⟨List.mem_of_getElem? (i := 188) (by decide +kernel), by decide +kernel⟩
theorem q_143 : (Cond.code yX2_batches prog_1_method_21_code (1 : Nat) (Option.some Jvm.ClassFile.FieldType.int)) ∈ lw_all := List.mem_filter.mpr ⟨List.mem_of_getElem? (i := 189) (by decide +kernel), by decide +kernel⟩
theorem q_144 : (Cond.methodLink "MilkRoundLaw" (111 : Nat) yL_addFarm) ∈ lw_all := List.mem_filter.mpr ⟨List.mem_of_getElem? (i := 190) (by decide +kernel), by decide +kernel⟩
theorem q_145 : (Cond.static yL_addFarm) ∈ lw_all := List.mem_filter.mpr ⟨List.mem_of_getElem? (i := 191) (by decide +kernel), by decide +kernel⟩
theorem q_146 : (Cond.codeWith yL_addFarm method_3_code (4 : Nat) (Option.some Jvm.ClassFile.FieldType.int) [((0 : Nat), (9 : Nat), (12 : Nat), (13 : Nat)), ((0 : Nat), (9 : Nat), (15 : Nat), (15 : Nat))]) ∈ lw_all := List.mem_filter.mpr ⟨List.mem_of_getElem? (i := 192) (by decide +kernel), by decide +kernel⟩
theorem q_147 : (Cond.classLink "MilkRoundLaw" (13 : Nat) "java/lang/IllegalArgumentException") ∈ lw_all := List.mem_filter.mpr ⟨List.mem_of_getElem? (i := 193) (by decide +kernel), by decide +kernel⟩
theorem q_148 : (Cond.classLink "MilkRoundLaw" (15 : Nat) "java/lang/IllegalStateException") ∈ lw_all := List.mem_filter.mpr ⟨List.mem_of_getElem? (i := 194) (by decide +kernel), by decide +kernel⟩
theorem q_149 : (Cond.methodLink "MilkRoundLaw" (7 : Nat) yX2_addFarm) ∈ lw_all := List.mem_filter.mpr ⟨List.mem_of_getElem? (i := 195) (by decide +kernel), by decide +kernel⟩
theorem q_150 : (Cond.instanceMethod yX2_addFarm) ∈ lw_all := List.mem_filter.mpr ⟨List.mem_of_getElem? (i := 196) (by decide +kernel), by decide +kernel⟩
theorem q_151 : (Cond.selects "MilkRound" yX2_addFarm yX2_addFarm) ∈ lw_all := List.mem_filter.mpr ⟨List.mem_of_getElem? (i := 197) (by decide +kernel), by decide +kernel⟩
theorem q_152 : (Cond.code yX2_addFarm prog_1_method_2_code (2 : Nat) (Option.some Jvm.ClassFile.FieldType.int)) ∈ lw_all := List.mem_filter.mpr ⟨List.mem_of_getElem? (i := 198) (by decide +kernel), by decide +kernel⟩
theorem q_153 : (Cond.classLink "MilkRound" (48 : Nat) "java/lang/IllegalArgumentException") ∈ lw_all := List.mem_filter.mpr ⟨List.mem_of_getElem? (i := 199) (by decide +kernel), by decide +kernel⟩
theorem q_154 : (Cond.instantiable "java/lang/IllegalArgumentException" (6 : Nat)) ∈ lw_all := List.mem_filter.mpr ⟨List.mem_of_getElem? (i := 200) (by decide +kernel), by decide +kernel⟩
theorem q_162 : (Cond.selects "java/lang/IllegalArgumentException" ⟨"java/lang/Throwable", "fillInStackTrace", "(I)Ljava/lang/Throwable;"⟩ ⟨"java/lang/Throwable", "fillInStackTrace", "(I)Ljava/lang/Throwable;"⟩) ∈ lw_all := List.mem_filter.mpr ⟨List.mem_of_getElem? (i := 208) (by decide +kernel), by decide +kernel⟩
theorem q_163 : (Cond.selects "java/lang/IllegalArgumentException" ⟨"java/lang/Throwable", "fillInStackTrace", "()Ljava/lang/Throwable;"⟩ ⟨"java/lang/Throwable", "fillInStackTrace", "()Ljava/lang/Throwable;"⟩) ∈ lw_all := List.mem_filter.mpr ⟨List.mem_of_getElem? (i := 209) (by decide +kernel), by decide +kernel⟩
theorem q_164 : (Cond.lays "java/lang/IllegalArgumentException" "java/lang/Throwable" "cause" "Ljava/lang/Throwable;") ∈ lw_all := List.mem_filter.mpr ⟨List.mem_of_getElem? (i := 210) (by decide +kernel), by decide +kernel⟩
theorem q_165 : (Cond.lays "java/lang/Throwable" "java/lang/Throwable" "cause" "Ljava/lang/Throwable;") ∈ lw_all := List.mem_filter.mpr ⟨List.mem_of_getElem? (i := 211) (by decide +kernel), by decide +kernel⟩
theorem q_166 : (Cond.lays "java/lang/IllegalArgumentException" "java/lang/Throwable" "stackTrace" "[Ljava/lang/StackTraceElement;") ∈ lw_all := List.mem_filter.mpr ⟨List.mem_of_getElem? (i := 212) (by decide +kernel), by decide +kernel⟩
theorem q_167 : (Cond.lays "java/lang/Throwable" "java/lang/Throwable" "stackTrace" "[Ljava/lang/StackTraceElement;") ∈ lw_all := List.mem_filter.mpr ⟨List.mem_of_getElem? (i := 213) (by decide +kernel), by decide +kernel⟩
theorem q_168 : (Cond.lays "java/lang/IllegalArgumentException" "java/lang/Throwable" "suppressedExceptions" "Ljava/util/List;") ∈ lw_all := List.mem_filter.mpr ⟨List.mem_of_getElem? (i := 214) (by decide +kernel), by decide +kernel⟩
theorem q_169 : (Cond.lays "java/lang/Throwable" "java/lang/Throwable" "suppressedExceptions" "Ljava/util/List;") ∈ lw_all := List.mem_filter.mpr ⟨List.mem_of_getElem? (i := 215) (by decide +kernel), by decide +kernel⟩
theorem q_170 : (Cond.lays "java/lang/IllegalArgumentException" "java/lang/Throwable" "detailMessage" "Ljava/lang/String;") ∈ lw_all := List.mem_filter.mpr ⟨List.mem_of_getElem? (i := 216) (by decide +kernel), by decide +kernel⟩
theorem q_171 : (Cond.lays "java/lang/Throwable" "java/lang/Throwable" "detailMessage" "Ljava/lang/String;") ∈ lw_all := List.mem_filter.mpr ⟨List.mem_of_getElem? (i := 217) (by decide +kernel), by decide +kernel⟩
theorem q_172 : (Cond.lays "java/lang/IllegalArgumentException" "java/lang/Throwable" "backtrace" "Ljava/lang/Object;") ∈ lw_all := List.mem_filter.mpr ⟨List.mem_of_getElem? (i := 218) (by decide +kernel), by decide +kernel⟩
theorem q_173 : (Cond.lays "java/lang/Throwable" "java/lang/Throwable" "backtrace" "Ljava/lang/Object;") ∈ lw_all := List.mem_filter.mpr ⟨List.mem_of_getElem? (i := 219) (by decide +kernel), by decide +kernel⟩
theorem q_174 : (Cond.fieldLink "java/lang/Throwable" (198 : Nat) "java/lang/Throwable" "backtrace" "Ljava/lang/Object;") ∈ lw_all := List.mem_filter.mpr ⟨List.mem_of_getElem? (i := 220) (by decide +kernel), by decide +kernel⟩
theorem q_176 : (Cond.instanceMethod ⟨"java/lang/Throwable", "<init>", "()V"⟩) ∈ lw_all := List.mem_filter.mpr ⟨List.mem_of_getElem? (i := 222) (by decide +kernel), by decide +kernel⟩
theorem q_177 : (Cond.code ⟨"java/lang/Throwable", "<init>", "()V"⟩ prog_16_method_1_code (1 : Nat) (Option.none : Option Jvm.ClassFile.FieldType)) ∈ lw_all := List.mem_filter.mpr ⟨List.mem_of_getElem? (i := 223) (by decide +kernel), by decide +kernel⟩
theorem q_178 : (Cond.methodLink "java/lang/Throwable" (1 : Nat) ⟨"java/lang/Object", "<init>", "()V"⟩) ∈ lw_all := List.mem_filter.mpr ⟨List.mem_of_getElem? (i := 224) (by decide +kernel), by decide +kernel⟩
theorem q_179 : (Cond.fieldLink "java/lang/Throwable" (13 : Nat) "java/lang/Throwable" "UNASSIGNED_STACK" "[Ljava/lang/StackTraceElement;") ∈ lw_all := List.mem_filter.mpr ⟨List.mem_of_getElem? (i := 225) (by decide +kernel), by decide +kernel⟩
theorem q_181 : (Cond.fieldLink "java/lang/Throwable" (20 : Nat) "java/lang/Throwable" "SUPPRESSED_SENTINEL" "Ljava/util/List;") ∈ lw_all := List.mem_filter.mpr ⟨List.mem_of_getElem? (i := 227) (by decide +kernel), by decide +kernel⟩
theorem q_183 : (Cond.methodLink "java/lang/Throwable" (27 : Nat) ⟨"java/lang/Throwable", "fillInStackTrace", "()Ljava/lang/Throwable;"⟩) ∈ lw_all := List.mem_filter.mpr ⟨List.mem_of_getElem? (i := 229) (by decide +kernel), by decide +kernel⟩
theorem q_184 : (Cond.instanceMethod ⟨"java/lang/Throwable", "fillInStackTrace", "()Ljava/lang/Throwable;"⟩) ∈ lw_all := List.mem_filter.mpr ⟨List.mem_of_getElem? (i := 230) (by decide +kernel), by decide +kernel⟩
theorem q_186 : (Cond.selects "java/lang/ArithmeticException" ⟨"java/lang/Throwable", "fillInStackTrace", "()Ljava/lang/Throwable;"⟩ ⟨"java/lang/Throwable", "fillInStackTrace", "()Ljava/lang/Throwable;"⟩) ∈ lw_all := List.mem_filter.mpr ⟨List.mem_of_getElem? (i := 232) (by decide +kernel), by decide +kernel⟩
theorem q_187 : (Cond.selects "java/lang/ArrayIndexOutOfBoundsException" ⟨"java/lang/Throwable", "fillInStackTrace", "()Ljava/lang/Throwable;"⟩ ⟨"java/lang/Throwable", "fillInStackTrace", "()Ljava/lang/Throwable;"⟩) ∈ lw_all := List.mem_filter.mpr ⟨List.mem_of_getElem? (i := 233) (by decide +kernel), by decide +kernel⟩
theorem q_188 : (Cond.selects "java/lang/IllegalStateException" ⟨"java/lang/Throwable", "fillInStackTrace", "()Ljava/lang/Throwable;"⟩ ⟨"java/lang/Throwable", "fillInStackTrace", "()Ljava/lang/Throwable;"⟩) ∈ lw_all := List.mem_filter.mpr ⟨List.mem_of_getElem? (i := 234) (by decide +kernel), by decide +kernel⟩
theorem q_189 : (Cond.selects "java/lang/IndexOutOfBoundsException" ⟨"java/lang/Throwable", "fillInStackTrace", "()Ljava/lang/Throwable;"⟩ ⟨"java/lang/Throwable", "fillInStackTrace", "()Ljava/lang/Throwable;"⟩) ∈ lw_all := List.mem_filter.mpr ⟨List.mem_of_getElem? (i := 235) (by decide +kernel), by decide +kernel⟩
theorem q_190 : (Cond.selects "java/lang/UnsupportedOperationException" ⟨"java/lang/Throwable", "fillInStackTrace", "()Ljava/lang/Throwable;"⟩ ⟨"java/lang/Throwable", "fillInStackTrace", "()Ljava/lang/Throwable;"⟩) ∈ lw_all := List.mem_filter.mpr ⟨List.mem_of_getElem? (i := 236) (by decide +kernel), by decide +kernel⟩
theorem q_191 : (Cond.selects "java/util/NoSuchElementException" ⟨"java/lang/Throwable", "fillInStackTrace", "()Ljava/lang/Throwable;"⟩ ⟨"java/lang/Throwable", "fillInStackTrace", "()Ljava/lang/Throwable;"⟩) ∈ lw_all := List.mem_filter.mpr ⟨List.mem_of_getElem? (i := 237) (by decide +kernel), by decide +kernel⟩
theorem q_193 : (Cond.methodLink "java/lang/Throwable" (202 : Nat) ⟨"java/lang/Throwable", "fillInStackTrace", "(I)Ljava/lang/Throwable;"⟩) ∈ lw_all := List.mem_filter.mpr ⟨List.mem_of_getElem? (i := 239) (by decide +kernel), by decide +kernel⟩
theorem q_195 : (Cond.instanceMethod ⟨"java/lang/Throwable", "fillInStackTrace", "(I)Ljava/lang/Throwable;"⟩) ∈ lw_all := List.mem_filter.mpr ⟨List.mem_of_getElem? (i := 241) (by decide +kernel), by decide +kernel⟩
theorem q_196 : (Cond.instantiable "java/lang/Throwable" (6 : Nat)) ∈ lw_all := List.mem_filter.mpr ⟨List.mem_of_getElem? (i := 242) (by decide +kernel), by decide +kernel⟩
theorem q_199 : (Cond.methodLink "MilkRound" (52 : Nat) ⟨"java/lang/IllegalArgumentException", "<init>", "(Ljava/lang/String;)V"⟩) ∈ lw_all := List.mem_filter.mpr ⟨List.mem_of_getElem? (i := 245) (by decide +kernel), by decide +kernel⟩
theorem q_200 : (Cond.instanceMethod ⟨"java/lang/IllegalArgumentException", "<init>", "(Ljava/lang/String;)V"⟩) ∈ lw_all := List.mem_filter.mpr ⟨List.mem_of_getElem? (i := 246) (by decide +kernel), by decide +kernel⟩
theorem q_201 : (Cond.code ⟨"java/lang/IllegalArgumentException", "<init>", "(Ljava/lang/String;)V"⟩ prog_10_method_2_code (2 : Nat) (Option.none : Option Jvm.ClassFile.FieldType)) ∈ lw_all := List.mem_filter.mpr ⟨List.mem_of_getElem? (i := 247) (by decide +kernel), by decide +kernel⟩
theorem q_202 : (Cond.methodLink "java/lang/IllegalArgumentException" (7 : Nat) ⟨"java/lang/RuntimeException", "<init>", "(Ljava/lang/String;)V"⟩) ∈ lw_all := List.mem_filter.mpr ⟨List.mem_of_getElem? (i := 248) (by decide +kernel), by decide +kernel⟩
theorem q_203 : (Cond.instanceMethod ⟨"java/lang/RuntimeException", "<init>", "(Ljava/lang/String;)V"⟩) ∈ lw_all := List.mem_filter.mpr ⟨List.mem_of_getElem? (i := 249) (by decide +kernel), by decide +kernel⟩
theorem q_204 : (Cond.code ⟨"java/lang/RuntimeException", "<init>", "(Ljava/lang/String;)V"⟩ prog_14_method_2_code (2 : Nat) (Option.none : Option Jvm.ClassFile.FieldType)) ∈ lw_all := List.mem_filter.mpr ⟨List.mem_of_getElem? (i := 250) (by decide +kernel), by decide +kernel⟩
theorem q_205 : (Cond.methodLink "java/lang/RuntimeException" (7 : Nat) ⟨"java/lang/Exception", "<init>", "(Ljava/lang/String;)V"⟩) ∈ lw_all := List.mem_filter.mpr ⟨List.mem_of_getElem? (i := 251) (by decide +kernel), by decide +kernel⟩
theorem q_206 : (Cond.instanceMethod ⟨"java/lang/Exception", "<init>", "(Ljava/lang/String;)V"⟩) ∈ lw_all := List.mem_filter.mpr ⟨List.mem_of_getElem? (i := 252) (by decide +kernel), by decide +kernel⟩
theorem q_207 : (Cond.code ⟨"java/lang/Exception", "<init>", "(Ljava/lang/String;)V"⟩ prog_9_method_2_code (2 : Nat) (Option.none : Option Jvm.ClassFile.FieldType)) ∈ lw_all := List.mem_filter.mpr ⟨List.mem_of_getElem? (i := 253) (by decide +kernel), by decide +kernel⟩
theorem q_208 : (Cond.methodLink "java/lang/Exception" (7 : Nat) ⟨"java/lang/Throwable", "<init>", "(Ljava/lang/String;)V"⟩) ∈ lw_all := List.mem_filter.mpr ⟨List.mem_of_getElem? (i := 254) (by decide +kernel), by decide +kernel⟩
theorem q_209 : (Cond.instanceMethod ⟨"java/lang/Throwable", "<init>", "(Ljava/lang/String;)V"⟩) ∈ lw_all := List.mem_filter.mpr ⟨List.mem_of_getElem? (i := 255) (by decide +kernel), by decide +kernel⟩
theorem q_210 : (Cond.code ⟨"java/lang/Throwable", "<init>", "(Ljava/lang/String;)V"⟩ prog_16_method_2_code (2 : Nat) (Option.none : Option Jvm.ClassFile.FieldType)) ∈ lw_all := List.mem_filter.mpr ⟨List.mem_of_getElem? (i := 256) (by decide +kernel), by decide +kernel⟩
theorem q_211 : (Cond.fieldLink "java/lang/Throwable" (198 : Nat) "java/lang/Throwable" "backtrace" "Ljava/lang/Object;") ∈ lw_all := List.mem_filter.mpr ⟨List.mem_of_getElem? (i := 257) (by decide +kernel), by decide +kernel⟩
theorem q_212 : (Cond.fieldLink "java/lang/Throwable" (31 : Nat) "java/lang/Throwable" "detailMessage" "Ljava/lang/String;") ∈ lw_all := List.mem_filter.mpr ⟨List.mem_of_getElem? (i := 258) (by decide +kernel), by decide +kernel⟩
theorem q_213 : (Cond.fieldLink "java/lang/Throwable" (7 : Nat) "java/lang/Throwable" "cause" "Ljava/lang/Throwable;") ∈ lw_all := List.mem_filter.mpr ⟨List.mem_of_getElem? (i := 259) (by decide +kernel), by decide +kernel⟩
theorem q_214 : (Cond.fieldLink "java/lang/Throwable" (17 : Nat) "java/lang/Throwable" "stackTrace" "[Ljava/lang/StackTraceElement;") ∈ lw_all := List.mem_filter.mpr ⟨List.mem_of_getElem? (i := 260) (by decide +kernel), by decide +kernel⟩
theorem q_215 : (Cond.fieldLink "java/lang/Throwable" (24 : Nat) "java/lang/Throwable" "suppressedExceptions" "Ljava/util/List;") ∈ lw_all := List.mem_filter.mpr ⟨List.mem_of_getElem? (i := 261) (by decide +kernel), by decide +kernel⟩
theorem q_220 : (Cond.lays "java/lang/IllegalArgumentException" "java/lang/Throwable" "depth" "I") ∈ lw_all := List.mem_filter.mpr ⟨List.mem_of_getElem? (i := 266) (by decide +kernel), by decide +kernel⟩
theorem q_224 : (Cond.arrayClass Jvm.ClassFile.FieldType.byte) ∈ lw_all := List.mem_filter.mpr ⟨List.mem_of_getElem? (i := 270) (by decide +kernel), by decide +kernel⟩
theorem q_225 : (Cond.classLink "MilkRound" (58 : Nat) "java/lang/IllegalStateException") ∈ lw_all := List.mem_filter.mpr ⟨List.mem_of_getElem? (i := 271) (by decide +kernel), by decide +kernel⟩
theorem q_226 : (Cond.instantiable "java/lang/IllegalStateException" (6 : Nat)) ∈ lw_all := List.mem_filter.mpr ⟨List.mem_of_getElem? (i := 272) (by decide +kernel), by decide +kernel⟩
theorem q_228 : (Cond.selects "java/lang/IllegalStateException" ⟨"java/lang/Throwable", "fillInStackTrace", "(I)Ljava/lang/Throwable;"⟩ ⟨"java/lang/Throwable", "fillInStackTrace", "(I)Ljava/lang/Throwable;"⟩) ∈ lw_all := List.mem_filter.mpr ⟨List.mem_of_getElem? (i := 274) (by decide +kernel), by decide +kernel⟩
theorem q_229 : (Cond.lays "java/lang/IllegalStateException" "java/lang/Throwable" "cause" "Ljava/lang/Throwable;") ∈ lw_all := List.mem_filter.mpr ⟨List.mem_of_getElem? (i := 275) (by decide +kernel), by decide +kernel⟩
theorem q_230 : (Cond.lays "java/lang/IllegalStateException" "java/lang/Throwable" "stackTrace" "[Ljava/lang/StackTraceElement;") ∈ lw_all := List.mem_filter.mpr ⟨List.mem_of_getElem? (i := 276) (by decide +kernel), by decide +kernel⟩
theorem q_231 : (Cond.lays "java/lang/IllegalStateException" "java/lang/Throwable" "suppressedExceptions" "Ljava/util/List;") ∈ lw_all := List.mem_filter.mpr ⟨List.mem_of_getElem? (i := 277) (by decide +kernel), by decide +kernel⟩
theorem q_232 : (Cond.lays "java/lang/IllegalStateException" "java/lang/Throwable" "detailMessage" "Ljava/lang/String;") ∈ lw_all := List.mem_filter.mpr ⟨List.mem_of_getElem? (i := 278) (by decide +kernel), by decide +kernel⟩
theorem q_233 : (Cond.lays "java/lang/IllegalStateException" "java/lang/Throwable" "backtrace" "Ljava/lang/Object;") ∈ lw_all := List.mem_filter.mpr ⟨List.mem_of_getElem? (i := 279) (by decide +kernel), by decide +kernel⟩
theorem q_235 : (Cond.methodLink "MilkRound" (62 : Nat) ⟨"java/lang/IllegalStateException", "<init>", "(Ljava/lang/String;)V"⟩) ∈ lw_all := List.mem_filter.mpr ⟨List.mem_of_getElem? (i := 281) (by decide +kernel), by decide +kernel⟩
theorem q_236 : (Cond.instanceMethod ⟨"java/lang/IllegalStateException", "<init>", "(Ljava/lang/String;)V"⟩) ∈ lw_all := List.mem_filter.mpr ⟨List.mem_of_getElem? (i := 282) (by decide +kernel), by decide +kernel⟩
theorem q_237 : (Cond.code ⟨"java/lang/IllegalStateException", "<init>", "(Ljava/lang/String;)V"⟩ prog_11_method_2_code (2 : Nat) (Option.none : Option Jvm.ClassFile.FieldType)) ∈ lw_all := List.mem_filter.mpr ⟨List.mem_of_getElem? (i := 283) (by decide +kernel), by decide +kernel⟩
theorem q_238 : (Cond.methodLink "java/lang/IllegalStateException" (7 : Nat) ⟨"java/lang/RuntimeException", "<init>", "(Ljava/lang/String;)V"⟩) ∈ lw_all := List.mem_filter.mpr ⟨List.mem_of_getElem? (i := 284) (by decide +kernel), by decide +kernel⟩
theorem q_239 : (Cond.lays "java/lang/IllegalStateException" "java/lang/Throwable" "depth" "I") ∈ lw_all := List.mem_filter.mpr ⟨List.mem_of_getElem? (i := 285) (by decide +kernel), by decide +kernel⟩
theorem q_243 : (Cond.instanceMethod yX0_add) ∈ lw_all := List.mem_filter.mpr ⟨List.mem_of_getElem? (i := 289) (by decide +kernel), by decide +kernel⟩
theorem q_244 : (Cond.code yX0_add prog_2_method_2_code (2 : Nat) (Option.some Jvm.ClassFile.FieldType.int)) ∈ lw_all := List.mem_filter.mpr ⟨List.mem_of_getElem? (i := 290) (by decide +kernel), by decide +kernel⟩
theorem q_245 : (Cond.methodLink "MilkRoundLaw" (120 : Nat) yL_addCow) ∈ lw_all := List.mem_filter.mpr ⟨List.mem_of_getElem? (i := 291) (by decide +kernel), by decide +kernel⟩
theorem q_246 : (Cond.static yL_addCow) ∈ lw_all := List.mem_filter.mpr ⟨List.mem_of_getElem? (i := 292) (by decide +kernel), by decide +kernel⟩
theorem q_247 : (Cond.codeWith yL_addCow method_4_code (5 : Nat) (Option.some Jvm.ClassFile.FieldType.int) [((0 : Nat), (10 : Nat), (13 : Nat), (21 : Nat)), ((0 : Nat), (10 : Nat), (17 : Nat), (13 : Nat)), ((0 : Nat), (10 : Nat), (21 : Nat), (15 : Nat))]) ∈ lw_all := List.mem_filter.mpr ⟨List.mem_of_getElem? (i := 293) (by decide +kernel), by decide +kernel⟩
theorem q_248 : (Cond.classLink "MilkRoundLaw" (21 : Nat) "java/lang/IndexOutOfBoundsException") ∈ lw_all := List.mem_filter.mpr ⟨List.mem_of_getElem? (i := 294) (by decide +kernel), by decide +kernel⟩
theorem q_249 : (Cond.instantiable "java/lang/ArrayIndexOutOfBoundsException" (6 : Nat)) ∈ lw_all := List.mem_filter.mpr ⟨List.mem_of_getElem? (i := 295) (by decide +kernel), by decide +kernel⟩
theorem q_250 : (Cond.instanceMethod ⟨"java/lang/ArrayIndexOutOfBoundsException", "<init>", "(Ljava/lang/String;)V"⟩) ∈ lw_all := List.mem_filter.mpr ⟨List.mem_of_getElem? (i := 296) (by decide +kernel), by decide +kernel⟩
theorem q_251 : (Cond.code ⟨"java/lang/ArrayIndexOutOfBoundsException", "<init>", "(Ljava/lang/String;)V"⟩ prog_8_method_2_code (2 : Nat) (Option.none : Option Jvm.ClassFile.FieldType)) ∈ lw_all := List.mem_filter.mpr ⟨List.mem_of_getElem? (i := 297) (by decide +kernel), by decide +kernel⟩
theorem q_252 : (Cond.methodLink "java/lang/ArrayIndexOutOfBoundsException" (7 : Nat) ⟨"java/lang/IndexOutOfBoundsException", "<init>", "(Ljava/lang/String;)V"⟩) ∈ lw_all := List.mem_filter.mpr ⟨List.mem_of_getElem? (i := 298) (by decide +kernel), by decide +kernel⟩
theorem q_253 : (Cond.instanceMethod ⟨"java/lang/IndexOutOfBoundsException", "<init>", "(Ljava/lang/String;)V"⟩) ∈ lw_all := List.mem_filter.mpr ⟨List.mem_of_getElem? (i := 299) (by decide +kernel), by decide +kernel⟩
theorem q_254 : (Cond.code ⟨"java/lang/IndexOutOfBoundsException", "<init>", "(Ljava/lang/String;)V"⟩ prog_12_method_2_code (2 : Nat) (Option.none : Option Jvm.ClassFile.FieldType)) ∈ lw_all := List.mem_filter.mpr ⟨List.mem_of_getElem? (i := 300) (by decide +kernel), by decide +kernel⟩
theorem q_255 : (Cond.methodLink "java/lang/IndexOutOfBoundsException" (7 : Nat) ⟨"java/lang/RuntimeException", "<init>", "(Ljava/lang/String;)V"⟩) ∈ lw_all := List.mem_filter.mpr ⟨List.mem_of_getElem? (i := 301) (by decide +kernel), by decide +kernel⟩
theorem q_256 : (Cond.lays "java/lang/ArrayIndexOutOfBoundsException" "java/lang/Throwable" "backtrace" "Ljava/lang/Object;") ∈ lw_all := List.mem_filter.mpr ⟨List.mem_of_getElem? (i := 302) (by decide +kernel), by decide +kernel⟩
theorem q_257 : (Cond.lays "java/lang/ArrayIndexOutOfBoundsException" "java/lang/Throwable" "detailMessage" "Ljava/lang/String;") ∈ lw_all := List.mem_filter.mpr ⟨List.mem_of_getElem? (i := 303) (by decide +kernel), by decide +kernel⟩
theorem q_258 : (Cond.lays "java/lang/ArrayIndexOutOfBoundsException" "java/lang/Throwable" "cause" "Ljava/lang/Throwable;") ∈ lw_all := List.mem_filter.mpr ⟨List.mem_of_getElem? (i := 304) (by decide +kernel), by decide +kernel⟩
theorem q_259 : (Cond.lays "java/lang/ArrayIndexOutOfBoundsException" "java/lang/Throwable" "stackTrace" "[Ljava/lang/StackTraceElement;") ∈ lw_all := List.mem_filter.mpr ⟨List.mem_of_getElem? (i := 305) (by decide +kernel), by decide +kernel⟩
theorem q_260 : (Cond.lays "java/lang/ArrayIndexOutOfBoundsException" "java/lang/Throwable" "depth" "I") ∈ lw_all := List.mem_filter.mpr ⟨List.mem_of_getElem? (i := 306) (by decide +kernel), by decide +kernel⟩
theorem q_261 : (Cond.lays "java/lang/ArrayIndexOutOfBoundsException" "java/lang/Throwable" "suppressedExceptions" "Ljava/util/List;") ∈ lw_all := List.mem_filter.mpr ⟨List.mem_of_getElem? (i := 307) (by decide +kernel), by decide +kernel⟩
theorem q_266 : (Cond.selects "java/lang/ArrayIndexOutOfBoundsException" ⟨"java/lang/Throwable", "fillInStackTrace", "(I)Ljava/lang/Throwable;"⟩ ⟨"java/lang/Throwable", "fillInStackTrace", "(I)Ljava/lang/Throwable;"⟩) ∈ lw_all := List.mem_filter.mpr ⟨List.mem_of_getElem? (i := 312) (by decide +kernel), by decide +kernel⟩
theorem q_267 : (Cond.instantiable "java/lang/String" (4 : Nat)) ∈ lw_all := List.mem_filter.mpr ⟨List.mem_of_getElem? (i := 313) (by decide +kernel), by decide +kernel⟩
theorem q_268 : (Cond.laysFinal "java/lang/String" "java/lang/String" "value" "[B") ∈ lw_all := List.mem_filter.mpr ⟨List.mem_of_getElem? (i := 314) (by decide +kernel), by decide +kernel⟩
theorem q_270 : (Cond.laysFinal "java/lang/String" "java/lang/String" "coder" "B") ∈ lw_all := List.mem_filter.mpr ⟨List.mem_of_getElem? (i := 316) (by decide +kernel), by decide +kernel⟩
theorem q_272 : (Cond.methodLink "MilkRoundLaw" (17 : Nat) yX2_addCow) ∈ lw_all := List.mem_filter.mpr ⟨List.mem_of_getElem? (i := 318) (by decide +kernel), by decide +kernel⟩
theorem q_273 : (Cond.instanceMethod yX2_addCow) ∈ lw_all := List.mem_filter.mpr ⟨List.mem_of_getElem? (i := 319) (by decide +kernel), by decide +kernel⟩
theorem q_274 : (Cond.selects "MilkRound" yX2_addCow yX2_addCow) ∈ lw_all := List.mem_filter.mpr ⟨List.mem_of_getElem? (i := 320) (by decide +kernel), by decide +kernel⟩
theorem q_275 : (Cond.code yX2_addCow prog_1_method_3_code (3 : Nat) (Option.some Jvm.ClassFile.FieldType.int)) ∈ lw_all := List.mem_filter.mpr ⟨List.mem_of_getElem? (i := 321) (by decide +kernel), by decide +kernel⟩
theorem q_276 : (Cond.methodLink "MilkRound" (67 : Nat) yX2_requireFarm) ∈ lw_all := List.mem_filter.mpr ⟨List.mem_of_getElem? (i := 322) (by decide +kernel), by decide +kernel⟩
theorem q_278 : (Cond.instanceMethod yX2_requireFarm) ∈ lw_all := List.mem_filter.mpr ⟨List.mem_of_getElem? (i := 324) (by decide +kernel), by decide +kernel⟩
theorem q_279 : (Cond.code yX2_requireFarm prog_1_method_33_code (2 : Nat) (Option.none : Option Jvm.ClassFile.FieldType)) ∈ lw_all := List.mem_filter.mpr ⟨List.mem_of_getElem? (i := 325) (by decide +kernel), by decide +kernel⟩
theorem q_280 : (Cond.classLink "MilkRound" (227 : Nat) "java/lang/IndexOutOfBoundsException") ∈ lw_all := List.mem_filter.mpr ⟨List.mem_of_getElem? (i := 326) (by decide +kernel), by decide +kernel⟩
theorem q_281 : (Cond.instantiable "java/lang/IndexOutOfBoundsException" (6 : Nat)) ∈ lw_all := List.mem_filter.mpr ⟨List.mem_of_getElem? (i := 327) (by decide +kernel), by decide +kernel⟩
theorem q_283 : (Cond.selects "java/lang/IndexOutOfBoundsException" ⟨"java/lang/Throwable", "fillInStackTrace", "(I)Ljava/lang/Throwable;"⟩ ⟨"java/lang/Throwable", "fillInStackTrace", "(I)Ljava/lang/Throwable;"⟩) ∈ lw_all := List.mem_filter.mpr ⟨List.mem_of_getElem? (i := 329) (by decide +kernel), by decide +kernel⟩
theorem q_284 : (Cond.lays "java/lang/IndexOutOfBoundsException" "java/lang/Throwable" "cause" "Ljava/lang/Throwable;") ∈ lw_all := List.mem_filter.mpr ⟨List.mem_of_getElem? (i := 330) (by decide +kernel), by decide +kernel⟩
theorem q_285 : (Cond.lays "java/lang/IndexOutOfBoundsException" "java/lang/Throwable" "stackTrace" "[Ljava/lang/StackTraceElement;") ∈ lw_all := List.mem_filter.mpr ⟨List.mem_of_getElem? (i := 331) (by decide +kernel), by decide +kernel⟩
theorem q_286 : (Cond.lays "java/lang/IndexOutOfBoundsException" "java/lang/Throwable" "suppressedExceptions" "Ljava/util/List;") ∈ lw_all := List.mem_filter.mpr ⟨List.mem_of_getElem? (i := 332) (by decide +kernel), by decide +kernel⟩
theorem q_287 : (Cond.lays "java/lang/IndexOutOfBoundsException" "java/lang/Throwable" "detailMessage" "Ljava/lang/String;") ∈ lw_all := List.mem_filter.mpr ⟨List.mem_of_getElem? (i := 333) (by decide +kernel), by decide +kernel⟩
theorem q_288 : (Cond.lays "java/lang/IndexOutOfBoundsException" "java/lang/Throwable" "backtrace" "Ljava/lang/Object;") ∈ lw_all := List.mem_filter.mpr ⟨List.mem_of_getElem? (i := 334) (by decide +kernel), by decide +kernel⟩
theorem q_290 : (Cond.methodLink "MilkRound" (231 : Nat) ⟨"java/lang/IndexOutOfBoundsException", "<init>", "(Ljava/lang/String;)V"⟩) ∈ lw_all := List.mem_filter.mpr ⟨List.mem_of_getElem? (i := 336) (by decide +kernel), by decide +kernel⟩
theorem q_291 : (Cond.lays "java/lang/IndexOutOfBoundsException" "java/lang/Throwable" "depth" "I") ∈ lw_all := List.mem_filter.mpr ⟨List.mem_of_getElem? (i := 337) (by decide +kernel), by decide +kernel⟩
theorem q_297 : (Cond.instanceMethod yX0_addCowTo) ∈ lw_all := List.mem_filter.mpr ⟨List.mem_of_getElem? (i := 343) (by decide +kernel), by decide +kernel⟩
theorem q_298 : (Cond.code yX0_addCowTo prog_2_method_3_code (3 : Nat) (Option.some Jvm.ClassFile.FieldType.int)) ∈ lw_all := List.mem_filter.mpr ⟨List.mem_of_getElem? (i := 344) (by decide +kernel), by decide +kernel⟩
theorem q_299 : (Cond.methodLink "MilkRoundLaw" (124 : Nat) yL_milkOf) ∈ lw_all := List.mem_filter.mpr ⟨List.mem_of_getElem? (i := 345) (by decide +kernel), by decide +kernel⟩
theorem q_300 : (Cond.static yL_milkOf) ∈ lw_all := List.mem_filter.mpr ⟨List.mem_of_getElem? (i := 346) (by decide +kernel), by decide +kernel⟩
theorem q_301 : (Cond.codeWith yL_milkOf method_5_code (5 : Nat) (Option.some Jvm.ClassFile.FieldType.int) [((0 : Nat), (10 : Nat), (13 : Nat), (21 : Nat)), ((0 : Nat), (10 : Nat), (17 : Nat), (13 : Nat))]) ∈ lw_all := List.mem_filter.mpr ⟨List.mem_of_getElem? (i := 347) (by decide +kernel), by decide +kernel⟩
theorem q_302 : (Cond.methodLink "MilkRoundLaw" (23 : Nat) yX2_milkOf) ∈ lw_all := List.mem_filter.mpr ⟨List.mem_of_getElem? (i := 348) (by decide +kernel), by decide +kernel⟩
theorem q_303 : (Cond.instanceMethod yX2_milkOf) ∈ lw_all := List.mem_filter.mpr ⟨List.mem_of_getElem? (i := 349) (by decide +kernel), by decide +kernel⟩
theorem q_304 : (Cond.selects "MilkRound" yX2_milkOf yX2_milkOf) ∈ lw_all := List.mem_filter.mpr ⟨List.mem_of_getElem? (i := 350) (by decide +kernel), by decide +kernel⟩
theorem q_305 : (Cond.code yX2_milkOf prog_1_method_4_code (3 : Nat) (Option.some Jvm.ClassFile.FieldType.int)) ∈ lw_all := List.mem_filter.mpr ⟨List.mem_of_getElem? (i := 351) (by decide +kernel), by decide +kernel⟩
theorem q_309 : (Cond.instanceMethod yX0_milkOn) ∈ lw_all := List.mem_filter.mpr ⟨List.mem_of_getElem? (i := 355) (by decide +kernel), by decide +kernel⟩
theorem q_310 : (Cond.code yX0_milkOn prog_2_method_4_code (5 : Nat) (Option.some Jvm.ClassFile.FieldType.int)) ∈ lw_all := List.mem_filter.mpr ⟨List.mem_of_getElem? (i := 356) (by decide +kernel), by decide +kernel⟩
theorem q_311 : (Cond.methodLink "MilkRound$Farms" (30 : Nat) yX0_milkOfCow) ∈ lw_all := List.mem_filter.mpr ⟨List.mem_of_getElem? (i := 357) (by decide +kernel), by decide +kernel⟩
theorem q_312 : (Cond.static yX0_milkOfCow) ∈ lw_all := List.mem_filter.mpr ⟨List.mem_of_getElem? (i := 358) (by decide +kernel), by decide +kernel⟩
theorem q_313 : (Cond.code yX0_milkOfCow prog_2_method_5_code (2 : Nat) (Option.some Jvm.ClassFile.FieldType.int)) ∈ lw_all := List.mem_filter.mpr ⟨List.mem_of_getElem? (i := 359) (by decide +kernel), by decide +kernel⟩
theorem q_314 : (Cond.methodLink "MilkRound$Farms" (34 : Nat) ⟨"java/lang/Math", "abs", "(I)I"⟩) ∈ lw_all := List.mem_filter.mpr ⟨List.mem_of_getElem? (i := 360) (by decide +kernel), by decide +kernel⟩
theorem q_315 : (Cond.static ⟨"java/lang/Math", "abs", "(I)I"⟩) ∈ lw_all := List.mem_filter.mpr ⟨List.mem_of_getElem? (i := 361) (by decide +kernel), by decide +kernel⟩
theorem q_316 : (Cond.code ⟨"java/lang/Math", "abs", "(I)I"⟩ prog_13_method_59_code (1 : Nat) (Option.some Jvm.ClassFile.FieldType.int)) ∈ lw_all := List.mem_filter.mpr ⟨List.mem_of_getElem? (i := 362) (by decide +kernel), by decide +kernel⟩
theorem q_317 : (Cond.methodLink "MilkRound$Farms" (40 : Nat) ⟨"java/lang/Math", "max", "(II)I"⟩) ∈ lw_all := List.mem_filter.mpr ⟨List.mem_of_getElem? (i := 363) (by decide +kernel), by decide +kernel⟩
theorem q_318 : (Cond.static ⟨"java/lang/Math", "max", "(II)I"⟩) ∈ lw_all := List.mem_filter.mpr ⟨List.mem_of_getElem? (i := 364) (by decide +kernel), by decide +kernel⟩
theorem q_319 : (Cond.code ⟨"java/lang/Math", "max", "(II)I"⟩ prog_13_method_65_code (2 : Nat) (Option.some Jvm.ClassFile.FieldType.int)) ∈ lw_all := List.mem_filter.mpr ⟨List.mem_of_getElem? (i := 365) (by decide +kernel), by decide +kernel⟩
theorem q_320 : (Cond.methodLink "MilkRoundLaw" (127 : Nat) yL_inTank) ∈ lw_all := List.mem_filter.mpr ⟨List.mem_of_getElem? (i := 366) (by decide +kernel), by decide +kernel⟩
theorem q_321 : (Cond.static yL_inTank) ∈ lw_all := List.mem_filter.mpr ⟨List.mem_of_getElem? (i := 367) (by decide +kernel), by decide +kernel⟩
theorem q_322 : (Cond.codeWith yL_inTank method_6_code (4 : Nat) (Option.some Jvm.ClassFile.FieldType.int) [((0 : Nat), (9 : Nat), (12 : Nat), (21 : Nat))]) ∈ lw_all := List.mem_filter.mpr ⟨List.mem_of_getElem? (i := 368) (by decide +kernel), by decide +kernel⟩
theorem q_323 : (Cond.methodLink "MilkRoundLaw" (26 : Nat) yX2_inTank) ∈ lw_all := List.mem_filter.mpr ⟨List.mem_of_getElem? (i := 369) (by decide +kernel), by decide +kernel⟩
theorem q_324 : (Cond.instanceMethod yX2_inTank) ∈ lw_all := List.mem_filter.mpr ⟨List.mem_of_getElem? (i := 370) (by decide +kernel), by decide +kernel⟩
theorem q_325 : (Cond.selects "MilkRound" yX2_inTank yX2_inTank) ∈ lw_all := List.mem_filter.mpr ⟨List.mem_of_getElem? (i := 371) (by decide +kernel), by decide +kernel⟩
theorem q_326 : (Cond.code yX2_inTank prog_1_method_5_code (2 : Nat) (Option.some Jvm.ClassFile.FieldType.int)) ∈ lw_all := List.mem_filter.mpr ⟨List.mem_of_getElem? (i := 372) (by decide +kernel), by decide +kernel⟩
theorem q_327 : (Cond.methodLink "MilkRoundLaw" (130 : Nat) yL_pass) ∈ lw_all := List.mem_filter.mpr ⟨List.mem_of_getElem? (i := 373) (by decide +kernel), by decide +kernel⟩
theorem q_328 : (Cond.static yL_pass) ∈ lw_all := List.mem_filter.mpr ⟨List.mem_of_getElem? (i := 374) (by decide +kernel), by decide +kernel⟩
theorem q_329 : (Cond.codeWith yL_pass method_7_code (4 : Nat) (Option.some Jvm.ClassFile.FieldType.int) [((0 : Nat), (9 : Nat), (12 : Nat), (13 : Nat))]) ∈ lw_all := List.mem_filter.mpr ⟨List.mem_of_getElem? (i := 375) (by decide +kernel), by decide +kernel⟩
theorem q_330 : (Cond.methodLink "MilkRoundLaw" (29 : Nat) yX2_pass) ∈ lw_all := List.mem_filter.mpr ⟨List.mem_of_getElem? (i := 376) (by decide +kernel), by decide +kernel⟩
theorem q_331 : (Cond.instanceMethod yX2_pass) ∈ lw_all := List.mem_filter.mpr ⟨List.mem_of_getElem? (i := 377) (by decide +kernel), by decide +kernel⟩
theorem q_332 : (Cond.selects "MilkRound" yX2_pass yX2_pass) ∈ lw_all := List.mem_filter.mpr ⟨List.mem_of_getElem? (i := 378) (by decide +kernel), by decide +kernel⟩
theorem q_333 : (Cond.code yX2_pass prog_1_method_6_code (4 : Nat) (Option.some Jvm.ClassFile.FieldType.int)) ∈ lw_all := List.mem_filter.mpr ⟨List.mem_of_getElem? (i := 379) (by decide +kernel), by decide +kernel⟩
theorem q_337 : (Cond.instanceMethod yX0_milkAll) ∈ lw_all := List.mem_filter.mpr ⟨List.mem_of_getElem? (i := 383) (by decide +kernel), by decide +kernel⟩
theorem q_338 : (Cond.code yX0_milkAll prog_2_method_6_code (6 : Nat) (Option.some Jvm.ClassFile.FieldType.int)) ∈ lw_all := List.mem_filter.mpr ⟨List.mem_of_getElem? (i := 384) (by decide +kernel), by decide +kernel⟩
theorem q_339 : (Cond.methodLink "MilkRound$Farms" (43 : Nat) yX0_milkOn) ∈ lw_all := List.mem_filter.mpr ⟨List.mem_of_getElem? (i := 385) (by decide +kernel), by decide +kernel⟩
theorem q_340 : (Cond.methodLink "MilkRound$Farms" (46 : Nat) ⟨"java/lang/Math", "min", "(II)I"⟩) ∈ lw_all := List.mem_filter.mpr ⟨List.mem_of_getElem? (i := 386) (by decide +kernel), by decide +kernel⟩
theorem q_341 : (Cond.static ⟨"java/lang/Math", "min", "(II)I"⟩) ∈ lw_all := List.mem_filter.mpr ⟨List.mem_of_getElem? (i := 387) (by decide +kernel), by decide +kernel⟩
theorem q_342 : (Cond.code ⟨"java/lang/Math", "min", "(II)I"⟩ prog_13_method_69_code (2 : Nat) (Option.some Jvm.ClassFile.FieldType.int)) ∈ lw_all := List.mem_filter.mpr ⟨List.mem_of_getElem? (i := 388) (by decide +kernel), by decide +kernel⟩
theorem q_343 : (Cond.methodLink "MilkRoundLaw" (137 : Nat) yL_addVat) ∈ lw_all := List.mem_filter.mpr ⟨List.mem_of_getElem? (i := 389) (by decide +kernel), by decide +kernel⟩
theorem q_344 : (Cond.static yL_addVat) ∈ lw_all := List.mem_filter.mpr ⟨List.mem_of_getElem? (i := 390) (by decide +kernel), by decide +kernel⟩
theorem q_345 : (Cond.codeWith yL_addVat method_8_code (4 : Nat) (Option.some Jvm.ClassFile.FieldType.int) [((0 : Nat), (9 : Nat), (12 : Nat), (13 : Nat)), ((0 : Nat), (9 : Nat), (15 : Nat), (15 : Nat))]) ∈ lw_all := List.mem_filter.mpr ⟨List.mem_of_getElem? (i := 391) (by decide +kernel), by decide +kernel⟩
theorem q_346 : (Cond.methodLink "MilkRoundLaw" (32 : Nat) yX2_addVat) ∈ lw_all := List.mem_filter.mpr ⟨List.mem_of_getElem? (i := 392) (by decide +kernel), by decide +kernel⟩
theorem q_347 : (Cond.instanceMethod yX2_addVat) ∈ lw_all := List.mem_filter.mpr ⟨List.mem_of_getElem? (i := 393) (by decide +kernel), by decide +kernel⟩
theorem q_348 : (Cond.selects "MilkRound" yX2_addVat yX2_addVat) ∈ lw_all := List.mem_filter.mpr ⟨List.mem_of_getElem? (i := 394) (by decide +kernel), by decide +kernel⟩
theorem q_349 : (Cond.code yX2_addVat prog_1_method_8_code (2 : Nat) (Option.some Jvm.ClassFile.FieldType.int)) ∈ lw_all := List.mem_filter.mpr ⟨List.mem_of_getElem? (i := 395) (by decide +kernel), by decide +kernel⟩
theorem q_352 : (Cond.methodLink "MilkRoundLaw" (140 : Nat) yL_beginRound) ∈ lw_all := List.mem_filter.mpr ⟨List.mem_of_getElem? (i := 398) (by decide +kernel), by decide +kernel⟩
theorem q_353 : (Cond.static yL_beginRound) ∈ lw_all := List.mem_filter.mpr ⟨List.mem_of_getElem? (i := 399) (by decide +kernel), by decide +kernel⟩
theorem q_354 : (Cond.codeWith yL_beginRound method_9_code (3 : Nat) (Option.some Jvm.ClassFile.FieldType.int) [((0 : Nat), (8 : Nat), (11 : Nat), (15 : Nat))]) ∈ lw_all := List.mem_filter.mpr ⟨List.mem_of_getElem? (i := 400) (by decide +kernel), by decide +kernel⟩
theorem q_355 : (Cond.methodLink "MilkRoundLaw" (35 : Nat) yX2_beginRound) ∈ lw_all := List.mem_filter.mpr ⟨List.mem_of_getElem? (i := 401) (by decide +kernel), by decide +kernel⟩
theorem q_356 : (Cond.instanceMethod yX2_beginRound) ∈ lw_all := List.mem_filter.mpr ⟨List.mem_of_getElem? (i := 402) (by decide +kernel), by decide +kernel⟩
theorem q_357 : (Cond.selects "MilkRound" yX2_beginRound yX2_beginRound) ∈ lw_all := List.mem_filter.mpr ⟨List.mem_of_getElem? (i := 403) (by decide +kernel), by decide +kernel⟩
theorem q_358 : (Cond.code yX2_beginRound prog_1_method_9_code (2 : Nat) (Option.some Jvm.ClassFile.FieldType.int)) ∈ lw_all := List.mem_filter.mpr ⟨List.mem_of_getElem? (i := 404) (by decide +kernel), by decide +kernel⟩
theorem q_360 : (Cond.methodLink "MilkRoundLaw" (144 : Nat) yL_visit) ∈ lw_all := List.mem_filter.mpr ⟨List.mem_of_getElem? (i := 406) (by decide +kernel), by decide +kernel⟩
theorem q_361 : (Cond.static yL_visit) ∈ lw_all := List.mem_filter.mpr ⟨List.mem_of_getElem? (i := 407) (by decide +kernel), by decide +kernel⟩
theorem q_362 : (Cond.codeWith yL_visit method_10_code (4 : Nat) (Option.some Jvm.ClassFile.FieldType.int) [((0 : Nat), (9 : Nat), (12 : Nat), (21 : Nat)), ((0 : Nat), (9 : Nat), (15 : Nat), (15 : Nat))]) ∈ lw_all := List.mem_filter.mpr ⟨List.mem_of_getElem? (i := 408) (by decide +kernel), by decide +kernel⟩
theorem q_363 : (Cond.methodLink "MilkRoundLaw" (39 : Nat) yX2_visit) ∈ lw_all := List.mem_filter.mpr ⟨List.mem_of_getElem? (i := 409) (by decide +kernel), by decide +kernel⟩
theorem q_364 : (Cond.instanceMethod yX2_visit) ∈ lw_all := List.mem_filter.mpr ⟨List.mem_of_getElem? (i := 410) (by decide +kernel), by decide +kernel⟩
theorem q_365 : (Cond.selects "MilkRound" yX2_visit yX2_visit) ∈ lw_all := List.mem_filter.mpr ⟨List.mem_of_getElem? (i := 411) (by decide +kernel), by decide +kernel⟩
theorem q_366 : (Cond.code yX2_visit prog_1_method_10_code (3 : Nat) (Option.some Jvm.ClassFile.FieldType.int)) ∈ lw_all := List.mem_filter.mpr ⟨List.mem_of_getElem? (i := 412) (by decide +kernel), by decide +kernel⟩
theorem q_370 : (Cond.methodLink "MilkRound" (108 : Nat) yX2_inTanker) ∈ lw_all := List.mem_filter.mpr ⟨List.mem_of_getElem? (i := 416) (by decide +kernel), by decide +kernel⟩
theorem q_373 : (Cond.instanceMethod yX0_draw) ∈ lw_all := List.mem_filter.mpr ⟨List.mem_of_getElem? (i := 419) (by decide +kernel), by decide +kernel⟩
theorem q_374 : (Cond.code yX0_draw prog_2_method_7_code (4 : Nat) (Option.some Jvm.ClassFile.FieldType.int)) ∈ lw_all := List.mem_filter.mpr ⟨List.mem_of_getElem? (i := 420) (by decide +kernel), by decide +kernel⟩
theorem q_377 : (Cond.instanceMethod yX1_add) ∈ lw_all := List.mem_filter.mpr ⟨List.mem_of_getElem? (i := 423) (by decide +kernel), by decide +kernel⟩
theorem q_378 : (Cond.code yX1_add prog_3_method_2_code (3 : Nat) (Option.none : Option Jvm.ClassFile.FieldType)) ∈ lw_all := List.mem_filter.mpr ⟨List.mem_of_getElem? (i := 424) (by decide +kernel), by decide +kernel⟩
theorem q_379 : (Cond.methodLink "MilkRoundLaw" (147 : Nat) yL_endRound) ∈ lw_all := List.mem_filter.mpr ⟨List.mem_of_getElem? (i := 425) (by decide +kernel), by decide +kernel⟩
theorem q_380 : (Cond.static yL_endRound) ∈ lw_all := List.mem_filter.mpr ⟨List.mem_of_getElem? (i := 426) (by decide +kernel), by decide +kernel⟩
theorem q_381 : (Cond.codeWith yL_endRound method_11_code (4 : Nat) (Option.some Jvm.ClassFile.FieldType.int) [((0 : Nat), (9 : Nat), (12 : Nat), (21 : Nat)), ((0 : Nat), (9 : Nat), (15 : Nat), (15 : Nat)), ((0 : Nat), (9 : Nat), (18 : Nat), (45 : Nat))]) ∈ lw_all := List.mem_filter.mpr ⟨List.mem_of_getElem? (i := 427) (by decide +kernel), by decide +kernel⟩
theorem q_382 : (Cond.classLink "MilkRoundLaw" (45 : Nat) "java/lang/UnsupportedOperationException") ∈ lw_all := List.mem_filter.mpr ⟨List.mem_of_getElem? (i := 428) (by decide +kernel), by decide +kernel⟩
theorem q_383 : (Cond.methodLink "MilkRoundLaw" (42 : Nat) yX2_endRound) ∈ lw_all := List.mem_filter.mpr ⟨List.mem_of_getElem? (i := 429) (by decide +kernel), by decide +kernel⟩
theorem q_384 : (Cond.instanceMethod yX2_endRound) ∈ lw_all := List.mem_filter.mpr ⟨List.mem_of_getElem? (i := 430) (by decide +kernel), by decide +kernel⟩
theorem q_385 : (Cond.selects "MilkRound" yX2_endRound yX2_endRound) ∈ lw_all := List.mem_filter.mpr ⟨List.mem_of_getElem? (i := 431) (by decide +kernel), by decide +kernel⟩
theorem q_386 : (Cond.code yX2_endRound prog_1_method_11_code (2 : Nat) (Option.some Jvm.ClassFile.FieldType.int)) ∈ lw_all := List.mem_filter.mpr ⟨List.mem_of_getElem? (i := 432) (by decide +kernel), by decide +kernel⟩
theorem q_387 : (Cond.methodLink "MilkRound" (118 : Nat) yX2_requireVat) ∈ lw_all := List.mem_filter.mpr ⟨List.mem_of_getElem? (i := 433) (by decide +kernel), by decide +kernel⟩
theorem q_389 : (Cond.instanceMethod yX2_requireVat) ∈ lw_all := List.mem_filter.mpr ⟨List.mem_of_getElem? (i := 435) (by decide +kernel), by decide +kernel⟩
theorem q_390 : (Cond.code yX2_requireVat prog_1_method_34_code (2 : Nat) (Option.none : Option Jvm.ClassFile.FieldType)) ∈ lw_all := List.mem_filter.mpr ⟨List.mem_of_getElem? (i := 436) (by decide +kernel), by decide +kernel⟩
theorem q_392 : (Cond.methodLink "MilkRound" (121 : Nat) yX2_freeRoom) ∈ lw_all := List.mem_filter.mpr ⟨List.mem_of_getElem? (i := 438) (by decide +kernel), by decide +kernel⟩
theorem q_394 : (Cond.instanceMethod yX2_freeRoom) ∈ lw_all := List.mem_filter.mpr ⟨List.mem_of_getElem? (i := 440) (by decide +kernel), by decide +kernel⟩
theorem q_395 : (Cond.code yX2_freeRoom prog_1_method_32_code (2 : Nat) (Option.some Jvm.ClassFile.FieldType.int)) ∈ lw_all := List.mem_filter.mpr ⟨List.mem_of_getElem? (i := 441) (by decide +kernel), by decide +kernel⟩
theorem q_396 : (Cond.methodLink "MilkRound" (139 : Nat) yX2_inVat) ∈ lw_all := List.mem_filter.mpr ⟨List.mem_of_getElem? (i := 442) (by decide +kernel), by decide +kernel⟩
theorem q_397 : (Cond.instanceMethod yX2_inVat) ∈ lw_all := List.mem_filter.mpr ⟨List.mem_of_getElem? (i := 443) (by decide +kernel), by decide +kernel⟩
theorem q_398 : (Cond.selects "MilkRound" yX2_inVat yX2_inVat) ∈ lw_all := List.mem_filter.mpr ⟨List.mem_of_getElem? (i := 444) (by decide +kernel), by decide +kernel⟩
theorem q_399 : (Cond.code yX2_inVat prog_1_method_13_code (2 : Nat) (Option.some Jvm.ClassFile.FieldType.int)) ∈ lw_all := List.mem_filter.mpr ⟨List.mem_of_getElem? (i := 445) (by decide +kernel), by decide +kernel⟩
theorem q_400 : (Cond.classLink "MilkRound" (124 : Nat) "java/lang/UnsupportedOperationException") ∈ lw_all := List.mem_filter.mpr ⟨List.mem_of_getElem? (i := 446) (by decide +kernel), by decide +kernel⟩
theorem q_401 : (Cond.instantiable "java/lang/UnsupportedOperationException" (6 : Nat)) ∈ lw_all := List.mem_filter.mpr ⟨List.mem_of_getElem? (i := 447) (by decide +kernel), by decide +kernel⟩
theorem q_403 : (Cond.selects "java/lang/UnsupportedOperationException" ⟨"java/lang/Throwable", "fillInStackTrace", "(I)Ljava/lang/Throwable;"⟩ ⟨"java/lang/Throwable", "fillInStackTrace", "(I)Ljava/lang/Throwable;"⟩) ∈ lw_all := List.mem_filter.mpr ⟨List.mem_of_getElem? (i := 449) (by decide +kernel), by decide +kernel⟩
theorem q_404 : (Cond.lays "java/lang/UnsupportedOperationException" "java/lang/Throwable" "cause" "Ljava/lang/Throwable;") ∈ lw_all := List.mem_filter.mpr ⟨List.mem_of_getElem? (i := 450) (by decide +kernel), by decide +kernel⟩
theorem q_405 : (Cond.lays "java/lang/UnsupportedOperationException" "java/lang/Throwable" "stackTrace" "[Ljava/lang/StackTraceElement;") ∈ lw_all := List.mem_filter.mpr ⟨List.mem_of_getElem? (i := 451) (by decide +kernel), by decide +kernel⟩
theorem q_406 : (Cond.lays "java/lang/UnsupportedOperationException" "java/lang/Throwable" "suppressedExceptions" "Ljava/util/List;") ∈ lw_all := List.mem_filter.mpr ⟨List.mem_of_getElem? (i := 452) (by decide +kernel), by decide +kernel⟩
theorem q_407 : (Cond.lays "java/lang/UnsupportedOperationException" "java/lang/Throwable" "detailMessage" "Ljava/lang/String;") ∈ lw_all := List.mem_filter.mpr ⟨List.mem_of_getElem? (i := 453) (by decide +kernel), by decide +kernel⟩
theorem q_408 : (Cond.lays "java/lang/UnsupportedOperationException" "java/lang/Throwable" "backtrace" "Ljava/lang/Object;") ∈ lw_all := List.mem_filter.mpr ⟨List.mem_of_getElem? (i := 454) (by decide +kernel), by decide +kernel⟩
theorem q_410 : (Cond.methodLink "MilkRound" (128 : Nat) ⟨"java/lang/UnsupportedOperationException", "<init>", "(Ljava/lang/String;)V"⟩) ∈ lw_all := List.mem_filter.mpr ⟨List.mem_of_getElem? (i := 456) (by decide +kernel), by decide +kernel⟩
theorem q_411 : (Cond.instanceMethod ⟨"java/lang/UnsupportedOperationException", "<init>", "(Ljava/lang/String;)V"⟩) ∈ lw_all := List.mem_filter.mpr ⟨List.mem_of_getElem? (i := 457) (by decide +kernel), by decide +kernel⟩
theorem q_412 : (Cond.code ⟨"java/lang/UnsupportedOperationException", "<init>", "(Ljava/lang/String;)V"⟩ prog_17_method_2_code (2 : Nat) (Option.none : Option Jvm.ClassFile.FieldType)) ∈ lw_all := List.mem_filter.mpr ⟨List.mem_of_getElem? (i := 458) (by decide +kernel), by decide +kernel⟩
theorem q_413 : (Cond.methodLink "java/lang/UnsupportedOperationException" (7 : Nat) ⟨"java/lang/RuntimeException", "<init>", "(Ljava/lang/String;)V"⟩) ∈ lw_all := List.mem_filter.mpr ⟨List.mem_of_getElem? (i := 459) (by decide +kernel), by decide +kernel⟩
theorem q_414 : (Cond.lays "java/lang/UnsupportedOperationException" "java/lang/Throwable" "depth" "I") ∈ lw_all := List.mem_filter.mpr ⟨List.mem_of_getElem? (i := 460) (by decide +kernel), by decide +kernel⟩
theorem q_418 : (Cond.instanceMethod yX1_countIn) ∈ lw_all := List.mem_filter.mpr ⟨List.mem_of_getElem? (i := 464) (by decide +kernel), by decide +kernel⟩
theorem q_419 : (Cond.code yX1_countIn prog_3_method_5_code (5 : Nat) (Option.some Jvm.ClassFile.FieldType.int)) ∈ lw_all := List.mem_filter.mpr ⟨List.mem_of_getElem? (i := 465) (by decide +kernel), by decide +kernel⟩
theorem q_423 : (Cond.instanceMethod yX1_move) ∈ lw_all := List.mem_filter.mpr ⟨List.mem_of_getElem? (i := 469) (by decide +kernel), by decide +kernel⟩
theorem q_424 : (Cond.code yX1_move prog_3_method_4_code (6 : Nat) (Option.none : Option Jvm.ClassFile.FieldType)) ∈ lw_all := List.mem_filter.mpr ⟨List.mem_of_getElem? (i := 470) (by decide +kernel), by decide +kernel⟩
theorem q_425 : (Cond.methodLink "MilkRoundLaw" (154 : Nat) yL_inVat) ∈ lw_all := List.mem_filter.mpr ⟨List.mem_of_getElem? (i := 471) (by decide +kernel), by decide +kernel⟩
theorem q_426 : (Cond.static yL_inVat) ∈ lw_all := List.mem_filter.mpr ⟨List.mem_of_getElem? (i := 472) (by decide +kernel), by decide +kernel⟩
theorem q_427 : (Cond.codeWith yL_inVat method_12_code (4 : Nat) (Option.some Jvm.ClassFile.FieldType.int) [((0 : Nat), (9 : Nat), (12 : Nat), (21 : Nat))]) ∈ lw_all := List.mem_filter.mpr ⟨List.mem_of_getElem? (i := 473) (by decide +kernel), by decide +kernel⟩
theorem q_428 : (Cond.methodLink "MilkRoundLaw" (47 : Nat) yX2_inVat) ∈ lw_all := List.mem_filter.mpr ⟨List.mem_of_getElem? (i := 474) (by decide +kernel), by decide +kernel⟩
theorem q_429 : (Cond.methodLink "MilkRoundLaw" (157 : Nat) yL_bestVat) ∈ lw_all := List.mem_filter.mpr ⟨List.mem_of_getElem? (i := 475) (by decide +kernel), by decide +kernel⟩
theorem q_430 : (Cond.static yL_bestVat) ∈ lw_all := List.mem_filter.mpr ⟨List.mem_of_getElem? (i := 476) (by decide +kernel), by decide +kernel⟩
theorem q_431 : (Cond.codeWith yL_bestVat method_13_code (3 : Nat) (Option.some Jvm.ClassFile.FieldType.int) [((0 : Nat), (8 : Nat), (11 : Nat), (53 : Nat))]) ∈ lw_all := List.mem_filter.mpr ⟨List.mem_of_getElem? (i := 477) (by decide +kernel), by decide +kernel⟩
theorem q_432 : (Cond.classLink "MilkRoundLaw" (53 : Nat) "java/util/NoSuchElementException") ∈ lw_all := List.mem_filter.mpr ⟨List.mem_of_getElem? (i := 478) (by decide +kernel), by decide +kernel⟩
theorem q_433 : (Cond.methodLink "MilkRoundLaw" (50 : Nat) yX2_bestVat) ∈ lw_all := List.mem_filter.mpr ⟨List.mem_of_getElem? (i := 479) (by decide +kernel), by decide +kernel⟩
theorem q_434 : (Cond.instanceMethod yX2_bestVat) ∈ lw_all := List.mem_filter.mpr ⟨List.mem_of_getElem? (i := 480) (by decide +kernel), by decide +kernel⟩
theorem q_435 : (Cond.selects "MilkRound" yX2_bestVat yX2_bestVat) ∈ lw_all := List.mem_filter.mpr ⟨List.mem_of_getElem? (i := 481) (by decide +kernel), by decide +kernel⟩
theorem q_436 : (Cond.code yX2_bestVat prog_1_method_14_code (6 : Nat) (Option.some Jvm.ClassFile.FieldType.int)) ∈ lw_all := List.mem_filter.mpr ⟨List.mem_of_getElem? (i := 482) (by decide +kernel), by decide +kernel⟩
theorem q_437 : (Cond.classLink "MilkRound" (145 : Nat) "java/util/NoSuchElementException") ∈ lw_all := List.mem_filter.mpr ⟨List.mem_of_getElem? (i := 483) (by decide +kernel), by decide +kernel⟩
theorem q_438 : (Cond.instantiable "java/util/NoSuchElementException" (6 : Nat)) ∈ lw_all := List.mem_filter.mpr ⟨List.mem_of_getElem? (i := 484) (by decide +kernel), by decide +kernel⟩
theorem q_440 : (Cond.selects "java/util/NoSuchElementException" ⟨"java/lang/Throwable", "fillInStackTrace", "(I)Ljava/lang/Throwable;"⟩ ⟨"java/lang/Throwable", "fillInStackTrace", "(I)Ljava/lang/Throwable;"⟩) ∈ lw_all := List.mem_filter.mpr ⟨List.mem_of_getElem? (i := 486) (by decide +kernel), by decide +kernel⟩
theorem q_441 : (Cond.lays "java/util/NoSuchElementException" "java/lang/Throwable" "cause" "Ljava/lang/Throwable;") ∈ lw_all := List.mem_filter.mpr ⟨List.mem_of_getElem? (i := 487) (by decide +kernel), by decide +kernel⟩
theorem q_442 : (Cond.lays "java/util/NoSuchElementException" "java/lang/Throwable" "stackTrace" "[Ljava/lang/StackTraceElement;") ∈ lw_all := List.mem_filter.mpr ⟨List.mem_of_getElem? (i := 488) (by decide +kernel), by decide +kernel⟩
theorem q_443 : (Cond.lays "java/util/NoSuchElementException" "java/lang/Throwable" "suppressedExceptions" "Ljava/util/List;") ∈ lw_all := List.mem_filter.mpr ⟨List.mem_of_getElem? (i := 489) (by decide +kernel), by decide +kernel⟩
theorem q_444 : (Cond.lays "java/util/NoSuchElementException" "java/lang/Throwable" "detailMessage" "Ljava/lang/String;") ∈ lw_all := List.mem_filter.mpr ⟨List.mem_of_getElem? (i := 490) (by decide +kernel), by decide +kernel⟩
theorem q_445 : (Cond.lays "java/util/NoSuchElementException" "java/lang/Throwable" "backtrace" "Ljava/lang/Object;") ∈ lw_all := List.mem_filter.mpr ⟨List.mem_of_getElem? (i := 491) (by decide +kernel), by decide +kernel⟩
theorem q_447 : (Cond.methodLink "MilkRound" (149 : Nat) ⟨"java/util/NoSuchElementException", "<init>", "(Ljava/lang/String;)V"⟩) ∈ lw_all := List.mem_filter.mpr ⟨List.mem_of_getElem? (i := 493) (by decide +kernel), by decide +kernel⟩
theorem q_448 : (Cond.instanceMethod ⟨"java/util/NoSuchElementException", "<init>", "(Ljava/lang/String;)V"⟩) ∈ lw_all := List.mem_filter.mpr ⟨List.mem_of_getElem? (i := 494) (by decide +kernel), by decide +kernel⟩
theorem q_449 : (Cond.code ⟨"java/util/NoSuchElementException", "<init>", "(Ljava/lang/String;)V"⟩ prog_18_method_4_code (2 : Nat) (Option.none : Option Jvm.ClassFile.FieldType)) ∈ lw_all := List.mem_filter.mpr ⟨List.mem_of_getElem? (i := 495) (by decide +kernel), by decide +kernel⟩
theorem q_450 : (Cond.methodLink "java/util/NoSuchElementException" (13 : Nat) ⟨"java/lang/RuntimeException", "<init>", "(Ljava/lang/String;)V"⟩) ∈ lw_all := List.mem_filter.mpr ⟨List.mem_of_getElem? (i := 496) (by decide +kernel), by decide +kernel⟩
theorem q_451 : (Cond.lays "java/util/NoSuchElementException" "java/lang/Throwable" "depth" "I") ∈ lw_all := List.mem_filter.mpr ⟨List.mem_of_getElem? (i := 497) (by decide +kernel), by decide +kernel⟩
theorem q_453 : (Cond.methodLink "MilkRoundLaw" (160 : Nat) yL_close) ∈ lw_all := List.mem_filter.mpr ⟨List.mem_of_getElem? (i := 499) (by decide +kernel), by decide +kernel⟩
theorem q_454 : (Cond.static yL_close) ∈ lw_all := List.mem_filter.mpr ⟨List.mem_of_getElem? (i := 500) (by decide +kernel), by decide +kernel⟩
theorem q_455 : (Cond.codeWith yL_close method_14_code (4 : Nat) (Option.some Jvm.ClassFile.FieldType.int) [((0 : Nat), (9 : Nat), (12 : Nat), (21 : Nat)), ((0 : Nat), (9 : Nat), (15 : Nat), (45 : Nat)), ((0 : Nat), (9 : Nat), (18 : Nat), (15 : Nat))]) ∈ lw_all := List.mem_filter.mpr ⟨List.mem_of_getElem? (i := 501) (by decide +kernel), by decide +kernel⟩
theorem q_456 : (Cond.methodLink "MilkRoundLaw" (55 : Nat) yX2_close) ∈ lw_all := List.mem_filter.mpr ⟨List.mem_of_getElem? (i := 502) (by decide +kernel), by decide +kernel⟩
theorem q_457 : (Cond.instanceMethod yX2_close) ∈ lw_all := List.mem_filter.mpr ⟨List.mem_of_getElem? (i := 503) (by decide +kernel), by decide +kernel⟩
theorem q_458 : (Cond.selects "MilkRound" yX2_close yX2_close) ∈ lw_all := List.mem_filter.mpr ⟨List.mem_of_getElem? (i := 504) (by decide +kernel), by decide +kernel⟩
theorem q_459 : (Cond.code yX2_close prog_1_method_15_code (3 : Nat) (Option.some Jvm.ClassFile.FieldType.int)) ∈ lw_all := List.mem_filter.mpr ⟨List.mem_of_getElem? (i := 505) (by decide +kernel), by decide +kernel⟩
theorem q_464 : (Cond.instanceMethod yX1_settle) ∈ lw_all := List.mem_filter.mpr ⟨List.mem_of_getElem? (i := 510) (by decide +kernel), by decide +kernel⟩
theorem q_465 : (Cond.code yX1_settle prog_3_method_19_code (3 : Nat) (Option.none : Option Jvm.ClassFile.FieldType)) ∈ lw_all := List.mem_filter.mpr ⟨List.mem_of_getElem? (i := 511) (by decide +kernel), by decide +kernel⟩
theorem q_466 : (Cond.methodLink "MilkRound$Samples" (64 : Nat) yX1_isGraded) ∈ lw_all := List.mem_filter.mpr ⟨List.mem_of_getElem? (i := 512) (by decide +kernel), by decide +kernel⟩
theorem q_468 : (Cond.instanceMethod yX1_isGraded) ∈ lw_all := List.mem_filter.mpr ⟨List.mem_of_getElem? (i := 514) (by decide +kernel), by decide +kernel⟩
theorem q_469 : (Cond.code yX1_isGraded prog_3_method_10_code (3 : Nat) (Option.some Jvm.ClassFile.FieldType.boolean)) ∈ lw_all := List.mem_filter.mpr ⟨List.mem_of_getElem? (i := 515) (by decide +kernel), by decide +kernel⟩
theorem q_470 : (Cond.methodLink "MilkRound$Samples" (42 : Nat) yX1_spoiltLitres) ∈ lw_all := List.mem_filter.mpr ⟨List.mem_of_getElem? (i := 516) (by decide +kernel), by decide +kernel⟩
theorem q_472 : (Cond.instanceMethod yX1_spoiltLitres) ∈ lw_all := List.mem_filter.mpr ⟨List.mem_of_getElem? (i := 518) (by decide +kernel), by decide +kernel⟩
theorem q_473 : (Cond.code yX1_spoiltLitres prog_3_method_13_code (4 : Nat) (Option.some Jvm.ClassFile.FieldType.int)) ∈ lw_all := List.mem_filter.mpr ⟨List.mem_of_getElem? (i := 519) (by decide +kernel), by decide +kernel⟩
theorem q_474 : (Cond.methodLink "MilkRound$Samples" (46 : Nat) yX1_isSpoiltIn) ∈ lw_all := List.mem_filter.mpr ⟨List.mem_of_getElem? (i := 520) (by decide +kernel), by decide +kernel⟩
theorem q_476 : (Cond.instanceMethod yX1_isSpoiltIn) ∈ lw_all := List.mem_filter.mpr ⟨List.mem_of_getElem? (i := 522) (by decide +kernel), by decide +kernel⟩
theorem q_477 : (Cond.code yX1_isSpoiltIn prog_3_method_12_code (3 : Nat) (Option.some Jvm.ClassFile.FieldType.boolean)) ∈ lw_all := List.mem_filter.mpr ⟨List.mem_of_getElem? (i := 523) (by decide +kernel), by decide +kernel⟩
theorem q_478 : (Cond.methodLink "MilkRound$Samples" (67 : Nat) yX1_settleBlame) ∈ lw_all := List.mem_filter.mpr ⟨List.mem_of_getElem? (i := 524) (by decide +kernel), by decide +kernel⟩
theorem q_480 : (Cond.instanceMethod yX1_settleBlame) ∈ lw_all := List.mem_filter.mpr ⟨List.mem_of_getElem? (i := 526) (by decide +kernel), by decide +kernel⟩
theorem q_481 : (Cond.code yX1_settleBlame prog_3_method_21_code (6 : Nat) (Option.none : Option Jvm.ClassFile.FieldType)) ∈ lw_all := List.mem_filter.mpr ⟨List.mem_of_getElem? (i := 527) (by decide +kernel), by decide +kernel⟩
theorem q_482 : (Cond.methodLink "MilkRound$Samples" (61 : Nat) yX1_valueOf) ∈ lw_all := List.mem_filter.mpr ⟨List.mem_of_getElem? (i := 528) (by decide +kernel), by decide +kernel⟩
theorem q_484 : (Cond.instanceMethod yX1_valueOf) ∈ lw_all := List.mem_filter.mpr ⟨List.mem_of_getElem? (i := 530) (by decide +kernel), by decide +kernel⟩
theorem q_485 : (Cond.code yX1_valueOf prog_3_method_16_code (4 : Nat) (Option.some Jvm.ClassFile.FieldType.int)) ∈ lw_all := List.mem_filter.mpr ⟨List.mem_of_getElem? (i := 531) (by decide +kernel), by decide +kernel⟩
theorem q_486 : (Cond.methodLink "MilkRound$Samples" (54 : Nat) yX1_valueOfSample) ∈ lw_all := List.mem_filter.mpr ⟨List.mem_of_getElem? (i := 532) (by decide +kernel), by decide +kernel⟩
theorem q_488 : (Cond.instanceMethod yX1_valueOfSample) ∈ lw_all := List.mem_filter.mpr ⟨List.mem_of_getElem? (i := 534) (by decide +kernel), by decide +kernel⟩
theorem q_489 : (Cond.code yX1_valueOfSample prog_3_method_15_code (2 : Nat) (Option.some Jvm.ClassFile.FieldType.int)) ∈ lw_all := List.mem_filter.mpr ⟨List.mem_of_getElem? (i := 535) (by decide +kernel), by decide +kernel⟩
theorem q_490 : (Cond.methodLink "MilkRound$Samples" (50 : Nat) yX1_centsALitre) ∈ lw_all := List.mem_filter.mpr ⟨List.mem_of_getElem? (i := 536) (by decide +kernel), by decide +kernel⟩
theorem q_491 : (Cond.static yX1_centsALitre) ∈ lw_all := List.mem_filter.mpr ⟨List.mem_of_getElem? (i := 537) (by decide +kernel), by decide +kernel⟩
theorem q_492 : (Cond.code yX1_centsALitre prog_3_method_14_code (1 : Nat) (Option.some Jvm.ClassFile.FieldType.int)) ∈ lw_all := List.mem_filter.mpr ⟨List.mem_of_getElem? (i := 538) (by decide +kernel), by decide +kernel⟩
theorem q_493 : (Cond.methodLink "MilkRound$Samples" (71 : Nat) yX1_settlePay) ∈ lw_all := List.mem_filter.mpr ⟨List.mem_of_getElem? (i := 539) (by decide +kernel), by decide +kernel⟩
theorem q_495 : (Cond.instanceMethod yX1_settlePay) ∈ lw_all := List.mem_filter.mpr ⟨List.mem_of_getElem? (i := 541) (by decide +kernel), by decide +kernel⟩
theorem q_496 : (Cond.code yX1_settlePay prog_3_method_20_code (3 : Nat) (Option.none : Option Jvm.ClassFile.FieldType)) ∈ lw_all := List.mem_filter.mpr ⟨List.mem_of_getElem? (i := 542) (by decide +kernel), by decide +kernel⟩
theorem q_497 : (Cond.methodLink "MilkRoundLaw" (167 : Nat) yL_farmOf) ∈ lw_all := List.mem_filter.mpr ⟨List.mem_of_getElem? (i := 543) (by decide +kernel), by decide +kernel⟩
theorem q_498 : (Cond.static yL_farmOf) ∈ lw_all := List.mem_filter.mpr ⟨List.mem_of_getElem? (i := 544) (by decide +kernel), by decide +kernel⟩
theorem q_499 : (Cond.codeWith yL_farmOf method_15_code (4 : Nat) (Option.some Jvm.ClassFile.FieldType.int) [((0 : Nat), (9 : Nat), (12 : Nat), (21 : Nat))]) ∈ lw_all := List.mem_filter.mpr ⟨List.mem_of_getElem? (i := 545) (by decide +kernel), by decide +kernel⟩
theorem q_500 : (Cond.methodLink "MilkRoundLaw" (58 : Nat) yX2_farmOf) ∈ lw_all := List.mem_filter.mpr ⟨List.mem_of_getElem? (i := 546) (by decide +kernel), by decide +kernel⟩
theorem q_501 : (Cond.instanceMethod yX2_farmOf) ∈ lw_all := List.mem_filter.mpr ⟨List.mem_of_getElem? (i := 547) (by decide +kernel), by decide +kernel⟩
theorem q_502 : (Cond.selects "MilkRound" yX2_farmOf yX2_farmOf) ∈ lw_all := List.mem_filter.mpr ⟨List.mem_of_getElem? (i := 548) (by decide +kernel), by decide +kernel⟩
theorem q_503 : (Cond.code yX2_farmOf prog_1_method_17_code (2 : Nat) (Option.some Jvm.ClassFile.FieldType.int)) ∈ lw_all := List.mem_filter.mpr ⟨List.mem_of_getElem? (i := 549) (by decide +kernel), by decide +kernel⟩
theorem q_504 : (Cond.methodLink "MilkRound" (157 : Nat) yX2_requireSample) ∈ lw_all := List.mem_filter.mpr ⟨List.mem_of_getElem? (i := 550) (by decide +kernel), by decide +kernel⟩
theorem q_506 : (Cond.instanceMethod yX2_requireSample) ∈ lw_all := List.mem_filter.mpr ⟨List.mem_of_getElem? (i := 552) (by decide +kernel), by decide +kernel⟩
theorem q_507 : (Cond.code yX2_requireSample prog_1_method_35_code (2 : Nat) (Option.none : Option Jvm.ClassFile.FieldType)) ∈ lw_all := List.mem_filter.mpr ⟨List.mem_of_getElem? (i := 553) (by decide +kernel), by decide +kernel⟩
theorem q_509 : (Cond.methodLink "MilkRoundLaw" (170 : Nat) yL_litres) ∈ lw_all := List.mem_filter.mpr ⟨List.mem_of_getElem? (i := 555) (by decide +kernel), by decide +kernel⟩
theorem q_510 : (Cond.static yL_litres) ∈ lw_all := List.mem_filter.mpr ⟨List.mem_of_getElem? (i := 556) (by decide +kernel), by decide +kernel⟩
theorem q_511 : (Cond.codeWith yL_litres method_16_code (4 : Nat) (Option.some Jvm.ClassFile.FieldType.int) [((0 : Nat), (9 : Nat), (12 : Nat), (21 : Nat))]) ∈ lw_all := List.mem_filter.mpr ⟨List.mem_of_getElem? (i := 557) (by decide +kernel), by decide +kernel⟩
theorem q_512 : (Cond.methodLink "MilkRoundLaw" (61 : Nat) yX2_litres) ∈ lw_all := List.mem_filter.mpr ⟨List.mem_of_getElem? (i := 558) (by decide +kernel), by decide +kernel⟩
theorem q_513 : (Cond.instanceMethod yX2_litres) ∈ lw_all := List.mem_filter.mpr ⟨List.mem_of_getElem? (i := 559) (by decide +kernel), by decide +kernel⟩
theorem q_514 : (Cond.selects "MilkRound" yX2_litres yX2_litres) ∈ lw_all := List.mem_filter.mpr ⟨List.mem_of_getElem? (i := 560) (by decide +kernel), by decide +kernel⟩
theorem q_515 : (Cond.code yX2_litres prog_1_method_18_code (2 : Nat) (Option.some Jvm.ClassFile.FieldType.int)) ∈ lw_all := List.mem_filter.mpr ⟨List.mem_of_getElem? (i := 561) (by decide +kernel), by decide +kernel⟩
theorem q_516 : (Cond.methodLink "MilkRoundLaw" (173 : Nat) yL_grade) ∈ lw_all := List.mem_filter.mpr ⟨List.mem_of_getElem? (i := 562) (by decide +kernel), by decide +kernel⟩
theorem q_517 : (Cond.static yL_grade) ∈ lw_all := List.mem_filter.mpr ⟨List.mem_of_getElem? (i := 563) (by decide +kernel), by decide +kernel⟩
theorem q_518 : (Cond.codeWith yL_grade method_17_code (5 : Nat) (Option.some Jvm.ClassFile.FieldType.int) [((0 : Nat), (10 : Nat), (13 : Nat), (21 : Nat)), ((0 : Nat), (10 : Nat), (17 : Nat), (13 : Nat)), ((0 : Nat), (10 : Nat), (21 : Nat), (15 : Nat))]) ∈ lw_all := List.mem_filter.mpr ⟨List.mem_of_getElem? (i := 564) (by decide +kernel), by decide +kernel⟩
theorem q_519 : (Cond.methodLink "MilkRoundLaw" (64 : Nat) yX2_grade) ∈ lw_all := List.mem_filter.mpr ⟨List.mem_of_getElem? (i := 565) (by decide +kernel), by decide +kernel⟩
theorem q_520 : (Cond.instanceMethod yX2_grade) ∈ lw_all := List.mem_filter.mpr ⟨List.mem_of_getElem? (i := 566) (by decide +kernel), by decide +kernel⟩
theorem q_521 : (Cond.selects "MilkRound" yX2_grade yX2_grade) ∈ lw_all := List.mem_filter.mpr ⟨List.mem_of_getElem? (i := 567) (by decide +kernel), by decide +kernel⟩
theorem q_522 : (Cond.code yX2_grade prog_1_method_19_code (3 : Nat) (Option.some Jvm.ClassFile.FieldType.int)) ∈ lw_all := List.mem_filter.mpr ⟨List.mem_of_getElem? (i := 568) (by decide +kernel), by decide +kernel⟩
theorem q_527 : (Cond.instanceMethod yX1_ungraded) ∈ lw_all := List.mem_filter.mpr ⟨List.mem_of_getElem? (i := 573) (by decide +kernel), by decide +kernel⟩
theorem q_528 : (Cond.code yX1_ungraded prog_3_method_8_code (3 : Nat) (Option.some Jvm.ClassFile.FieldType.int)) ∈ lw_all := List.mem_filter.mpr ⟨List.mem_of_getElem? (i := 574) (by decide +kernel), by decide +kernel⟩
theorem q_529 : (Cond.methodLink "MilkRoundLaw" (177 : Nat) yL_gradeOf) ∈ lw_all := List.mem_filter.mpr ⟨List.mem_of_getElem? (i := 575) (by decide +kernel), by decide +kernel⟩
theorem q_530 : (Cond.static yL_gradeOf) ∈ lw_all := List.mem_filter.mpr ⟨List.mem_of_getElem? (i := 576) (by decide +kernel), by decide +kernel⟩
theorem q_531 : (Cond.codeWith yL_gradeOf method_18_code (4 : Nat) (Option.some Jvm.ClassFile.FieldType.int) [((0 : Nat), (9 : Nat), (12 : Nat), (21 : Nat))]) ∈ lw_all := List.mem_filter.mpr ⟨List.mem_of_getElem? (i := 577) (by decide +kernel), by decide +kernel⟩
theorem q_532 : (Cond.methodLink "MilkRoundLaw" (68 : Nat) yX2_gradeOf) ∈ lw_all := List.mem_filter.mpr ⟨List.mem_of_getElem? (i := 578) (by decide +kernel), by decide +kernel⟩
theorem q_533 : (Cond.instanceMethod yX2_gradeOf) ∈ lw_all := List.mem_filter.mpr ⟨List.mem_of_getElem? (i := 579) (by decide +kernel), by decide +kernel⟩
theorem q_534 : (Cond.selects "MilkRound" yX2_gradeOf yX2_gradeOf) ∈ lw_all := List.mem_filter.mpr ⟨List.mem_of_getElem? (i := 580) (by decide +kernel), by decide +kernel⟩
theorem q_535 : (Cond.code yX2_gradeOf prog_1_method_20_code (2 : Nat) (Option.some Jvm.ClassFile.FieldType.char)) ∈ lw_all := List.mem_filter.mpr ⟨List.mem_of_getElem? (i := 581) (by decide +kernel), by decide +kernel⟩
theorem q_536 : (Cond.methodLink "MilkRoundLaw" (184 : Nat) yL_stateOf) ∈ lw_all := List.mem_filter.mpr ⟨List.mem_of_getElem? (i := 582) (by decide +kernel), by decide +kernel⟩
theorem q_537 : (Cond.static yL_stateOf) ∈ lw_all := List.mem_filter.mpr ⟨List.mem_of_getElem? (i := 583) (by decide +kernel), by decide +kernel⟩
theorem q_538 : (Cond.codeWith yL_stateOf method_19_code (4 : Nat) (Option.some Jvm.ClassFile.FieldType.int) [((0 : Nat), (9 : Nat), (12 : Nat), (21 : Nat))]) ∈ lw_all := List.mem_filter.mpr ⟨List.mem_of_getElem? (i := 584) (by decide +kernel), by decide +kernel⟩
theorem q_539 : (Cond.methodLink "MilkRoundLaw" (72 : Nat) yX2_stateOf) ∈ lw_all := List.mem_filter.mpr ⟨List.mem_of_getElem? (i := 585) (by decide +kernel), by decide +kernel⟩
theorem q_540 : (Cond.instanceMethod yX2_stateOf) ∈ lw_all := List.mem_filter.mpr ⟨List.mem_of_getElem? (i := 586) (by decide +kernel), by decide +kernel⟩
theorem q_541 : (Cond.selects "MilkRound" yX2_stateOf yX2_stateOf) ∈ lw_all := List.mem_filter.mpr ⟨List.mem_of_getElem? (i := 587) (by decide +kernel), by decide +kernel⟩
theorem q_542 : (Cond.code yX2_stateOf prog_1_method_22_code (2 : Nat) (Option.some Jvm.ClassFile.FieldType.char)) ∈ lw_all := List.mem_filter.mpr ⟨List.mem_of_getElem? (i := 588) (by decide +kernel), by decide +kernel⟩
theorem q_543 : (Cond.methodLink "MilkRound" (183 : Nat) yX2_requireBatch) ∈ lw_all := List.mem_filter.mpr ⟨List.mem_of_getElem? (i := 589) (by decide +kernel), by decide +kernel⟩
theorem q_545 : (Cond.instanceMethod yX2_requireBatch) ∈ lw_all := List.mem_filter.mpr ⟨List.mem_of_getElem? (i := 591) (by decide +kernel), by decide +kernel⟩
theorem q_546 : (Cond.code yX2_requireBatch prog_1_method_36_code (2 : Nat) (Option.none : Option Jvm.ClassFile.FieldType)) ∈ lw_all := List.mem_filter.mpr ⟨List.mem_of_getElem? (i := 592) (by decide +kernel), by decide +kernel⟩
theorem q_550 : (Cond.instanceMethod yX1_isSpoilt) ∈ lw_all := List.mem_filter.mpr ⟨List.mem_of_getElem? (i := 596) (by decide +kernel), by decide +kernel⟩
theorem q_551 : (Cond.code yX1_isSpoilt prog_3_method_11_code (2 : Nat) (Option.some Jvm.ClassFile.FieldType.boolean)) ∈ lw_all := List.mem_filter.mpr ⟨List.mem_of_getElem? (i := 597) (by decide +kernel), by decide +kernel⟩
theorem q_553 : (Cond.methodLink "MilkRoundLaw" (187 : Nat) yL_share) ∈ lw_all := List.mem_filter.mpr ⟨List.mem_of_getElem? (i := 599) (by decide +kernel), by decide +kernel⟩
theorem q_554 : (Cond.static yL_share) ∈ lw_all := List.mem_filter.mpr ⟨List.mem_of_getElem? (i := 600) (by decide +kernel), by decide +kernel⟩
theorem q_555 : (Cond.codeWith yL_share method_20_code (5 : Nat) (Option.some Jvm.ClassFile.FieldType.int) [((0 : Nat), (10 : Nat), (13 : Nat), (21 : Nat)), ((0 : Nat), (10 : Nat), (17 : Nat), (53 : Nat))]) ∈ lw_all := List.mem_filter.mpr ⟨List.mem_of_getElem? (i := 601) (by decide +kernel), by decide +kernel⟩
theorem q_556 : (Cond.methodLink "MilkRoundLaw" (75 : Nat) yX2_share) ∈ lw_all := List.mem_filter.mpr ⟨List.mem_of_getElem? (i := 602) (by decide +kernel), by decide +kernel⟩
theorem q_557 : (Cond.instanceMethod yX2_share) ∈ lw_all := List.mem_filter.mpr ⟨List.mem_of_getElem? (i := 603) (by decide +kernel), by decide +kernel⟩
theorem q_558 : (Cond.selects "MilkRound" yX2_share yX2_share) ∈ lw_all := List.mem_filter.mpr ⟨List.mem_of_getElem? (i := 604) (by decide +kernel), by decide +kernel⟩
theorem q_559 : (Cond.code yX2_share prog_1_method_23_code (4 : Nat) (Option.some Jvm.ClassFile.FieldType.int)) ∈ lw_all := List.mem_filter.mpr ⟨List.mem_of_getElem? (i := 605) (by decide +kernel), by decide +kernel⟩
theorem q_562 : (Cond.instanceMethod yX1_shareAt) ∈ lw_all := List.mem_filter.mpr ⟨List.mem_of_getElem? (i := 608) (by decide +kernel), by decide +kernel⟩
theorem q_563 : (Cond.code yX1_shareAt prog_3_method_9_code (5 : Nat) (Option.some Jvm.ClassFile.FieldType.int)) ∈ lw_all := List.mem_filter.mpr ⟨List.mem_of_getElem? (i := 609) (by decide +kernel), by decide +kernel⟩
theorem q_565 : (Cond.methodLink "MilkRoundLaw" (190 : Nat) yL_worth) ∈ lw_all := List.mem_filter.mpr ⟨List.mem_of_getElem? (i := 611) (by decide +kernel), by decide +kernel⟩
theorem q_566 : (Cond.static yL_worth) ∈ lw_all := List.mem_filter.mpr ⟨List.mem_of_getElem? (i := 612) (by decide +kernel), by decide +kernel⟩
theorem q_567 : (Cond.codeWith yL_worth method_21_code (4 : Nat) (Option.some Jvm.ClassFile.FieldType.int) [((0 : Nat), (9 : Nat), (12 : Nat), (21 : Nat)), ((0 : Nat), (9 : Nat), (15 : Nat), (45 : Nat))]) ∈ lw_all := List.mem_filter.mpr ⟨List.mem_of_getElem? (i := 613) (by decide +kernel), by decide +kernel⟩
theorem q_568 : (Cond.methodLink "MilkRoundLaw" (78 : Nat) yX2_worth) ∈ lw_all := List.mem_filter.mpr ⟨List.mem_of_getElem? (i := 614) (by decide +kernel), by decide +kernel⟩
theorem q_569 : (Cond.instanceMethod yX2_worth) ∈ lw_all := List.mem_filter.mpr ⟨List.mem_of_getElem? (i := 615) (by decide +kernel), by decide +kernel⟩
theorem q_570 : (Cond.selects "MilkRound" yX2_worth yX2_worth) ∈ lw_all := List.mem_filter.mpr ⟨List.mem_of_getElem? (i := 616) (by decide +kernel), by decide +kernel⟩
theorem q_571 : (Cond.code yX2_worth prog_1_method_24_code (2 : Nat) (Option.some Jvm.ClassFile.FieldType.int)) ∈ lw_all := List.mem_filter.mpr ⟨List.mem_of_getElem? (i := 617) (by decide +kernel), by decide +kernel⟩
theorem q_572 : (Cond.methodLink "MilkRound" (198 : Nat) yX2_requireGradedBatch) ∈ lw_all := List.mem_filter.mpr ⟨List.mem_of_getElem? (i := 618) (by decide +kernel), by decide +kernel⟩
theorem q_574 : (Cond.instanceMethod yX2_requireGradedBatch) ∈ lw_all := List.mem_filter.mpr ⟨List.mem_of_getElem? (i := 620) (by decide +kernel), by decide +kernel⟩
theorem q_575 : (Cond.code yX2_requireGradedBatch prog_1_method_37_code (2 : Nat) (Option.none : Option Jvm.ClassFile.FieldType)) ∈ lw_all := List.mem_filter.mpr ⟨List.mem_of_getElem? (i := 621) (by decide +kernel), by decide +kernel⟩
theorem q_579 : (Cond.instanceMethod yX1_payOfAll) ∈ lw_all := List.mem_filter.mpr ⟨List.mem_of_getElem? (i := 625) (by decide +kernel), by decide +kernel⟩
theorem q_580 : (Cond.code yX1_payOfAll prog_3_method_17_code (2 : Nat) (Option.some Jvm.ClassFile.FieldType.int)) ∈ lw_all := List.mem_filter.mpr ⟨List.mem_of_getElem? (i := 626) (by decide +kernel), by decide +kernel⟩
theorem q_581 : (Cond.methodLink "MilkRound$Samples" (57 : Nat) yX1_isSpoilt) ∈ lw_all := List.mem_filter.mpr ⟨List.mem_of_getElem? (i := 627) (by decide +kernel), by decide +kernel⟩
theorem q_582 : (Cond.methodLink "MilkRoundLaw" (193 : Nat) yL_loss) ∈ lw_all := List.mem_filter.mpr ⟨List.mem_of_getElem? (i := 628) (by decide +kernel), by decide +kernel⟩
theorem q_583 : (Cond.static yL_loss) ∈ lw_all := List.mem_filter.mpr ⟨List.mem_of_getElem? (i := 629) (by decide +kernel), by decide +kernel⟩
theorem q_584 : (Cond.codeWith yL_loss method_22_code (4 : Nat) (Option.some Jvm.ClassFile.FieldType.int) [((0 : Nat), (9 : Nat), (12 : Nat), (21 : Nat)), ((0 : Nat), (9 : Nat), (15 : Nat), (45 : Nat))]) ∈ lw_all := List.mem_filter.mpr ⟨List.mem_of_getElem? (i := 630) (by decide +kernel), by decide +kernel⟩
theorem q_585 : (Cond.methodLink "MilkRoundLaw" (81 : Nat) yX2_loss) ∈ lw_all := List.mem_filter.mpr ⟨List.mem_of_getElem? (i := 631) (by decide +kernel), by decide +kernel⟩
theorem q_586 : (Cond.instanceMethod yX2_loss) ∈ lw_all := List.mem_filter.mpr ⟨List.mem_of_getElem? (i := 632) (by decide +kernel), by decide +kernel⟩
theorem q_587 : (Cond.selects "MilkRound" yX2_loss yX2_loss) ∈ lw_all := List.mem_filter.mpr ⟨List.mem_of_getElem? (i := 633) (by decide +kernel), by decide +kernel⟩
theorem q_588 : (Cond.code yX2_loss prog_1_method_25_code (2 : Nat) (Option.some Jvm.ClassFile.FieldType.int)) ∈ lw_all := List.mem_filter.mpr ⟨List.mem_of_getElem? (i := 634) (by decide +kernel), by decide +kernel⟩
theorem q_591 : (Cond.instanceMethod yX1_lossOf) ∈ lw_all := List.mem_filter.mpr ⟨List.mem_of_getElem? (i := 637) (by decide +kernel), by decide +kernel⟩
theorem q_592 : (Cond.code yX1_lossOf prog_3_method_18_code (2 : Nat) (Option.some Jvm.ClassFile.FieldType.int)) ∈ lw_all := List.mem_filter.mpr ⟨List.mem_of_getElem? (i := 638) (by decide +kernel), by decide +kernel⟩
theorem q_593 : (Cond.methodLink "MilkRoundLaw" (196 : Nat) yL_pay) ∈ lw_all := List.mem_filter.mpr ⟨List.mem_of_getElem? (i := 639) (by decide +kernel), by decide +kernel⟩
theorem q_594 : (Cond.static yL_pay) ∈ lw_all := List.mem_filter.mpr ⟨List.mem_of_getElem? (i := 640) (by decide +kernel), by decide +kernel⟩
theorem q_595 : (Cond.codeWith yL_pay method_23_code (4 : Nat) (Option.some Jvm.ClassFile.FieldType.int) [((0 : Nat), (8 : Nat), (11 : Nat), (21 : Nat))]) ∈ lw_all := List.mem_filter.mpr ⟨List.mem_of_getElem? (i := 641) (by decide +kernel), by decide +kernel⟩
theorem q_596 : (Cond.methodLink "MilkRoundLaw" (84 : Nat) yX2_pay) ∈ lw_all := List.mem_filter.mpr ⟨List.mem_of_getElem? (i := 642) (by decide +kernel), by decide +kernel⟩
theorem q_597 : (Cond.instanceMethod yX2_pay) ∈ lw_all := List.mem_filter.mpr ⟨List.mem_of_getElem? (i := 643) (by decide +kernel), by decide +kernel⟩
theorem q_598 : (Cond.selects "MilkRound" yX2_pay yX2_pay) ∈ lw_all := List.mem_filter.mpr ⟨List.mem_of_getElem? (i := 644) (by decide +kernel), by decide +kernel⟩
theorem q_599 : (Cond.code yX2_pay prog_1_method_26_code (5 : Nat) (Option.some Jvm.ClassFile.FieldType.long)) ∈ lw_all := List.mem_filter.mpr ⟨List.mem_of_getElem? (i := 645) (by decide +kernel), by decide +kernel⟩
theorem q_602 : (Cond.instanceMethod yX1_paidTo) ∈ lw_all := List.mem_filter.mpr ⟨List.mem_of_getElem? (i := 648) (by decide +kernel), by decide +kernel⟩
theorem q_603 : (Cond.code yX1_paidTo prog_3_method_22_code (5 : Nat) (Option.some Jvm.ClassFile.FieldType.int)) ∈ lw_all := List.mem_filter.mpr ⟨List.mem_of_getElem? (i := 649) (by decide +kernel), by decide +kernel⟩
theorem q_604 : (Cond.methodLink "MilkRoundLaw" (199 : Nat) yL_blame) ∈ lw_all := List.mem_filter.mpr ⟨List.mem_of_getElem? (i := 650) (by decide +kernel), by decide +kernel⟩
theorem q_605 : (Cond.static yL_blame) ∈ lw_all := List.mem_filter.mpr ⟨List.mem_of_getElem? (i := 651) (by decide +kernel), by decide +kernel⟩
theorem q_606 : (Cond.codeWith yL_blame method_24_code (4 : Nat) (Option.some Jvm.ClassFile.FieldType.int) [((0 : Nat), (8 : Nat), (11 : Nat), (21 : Nat))]) ∈ lw_all := List.mem_filter.mpr ⟨List.mem_of_getElem? (i := 652) (by decide +kernel), by decide +kernel⟩
theorem q_607 : (Cond.methodLink "MilkRoundLaw" (88 : Nat) yX2_blame) ∈ lw_all := List.mem_filter.mpr ⟨List.mem_of_getElem? (i := 653) (by decide +kernel), by decide +kernel⟩
theorem q_608 : (Cond.instanceMethod yX2_blame) ∈ lw_all := List.mem_filter.mpr ⟨List.mem_of_getElem? (i := 654) (by decide +kernel), by decide +kernel⟩
theorem q_609 : (Cond.selects "MilkRound" yX2_blame yX2_blame) ∈ lw_all := List.mem_filter.mpr ⟨List.mem_of_getElem? (i := 655) (by decide +kernel), by decide +kernel⟩
theorem q_610 : (Cond.code yX2_blame prog_1_method_27_code (5 : Nat) (Option.some Jvm.ClassFile.FieldType.long)) ∈ lw_all := List.mem_filter.mpr ⟨List.mem_of_getElem? (i := 656) (by decide +kernel), by decide +kernel⟩
theorem q_613 : (Cond.instanceMethod yX1_blamedOn) ∈ lw_all := List.mem_filter.mpr ⟨List.mem_of_getElem? (i := 659) (by decide +kernel), by decide +kernel⟩
theorem q_614 : (Cond.code yX1_blamedOn prog_3_method_23_code (5 : Nat) (Option.some Jvm.ClassFile.FieldType.int)) ∈ lw_all := List.mem_filter.mpr ⟨List.mem_of_getElem? (i := 660) (by decide +kernel), by decide +kernel⟩
theorem q_615 : (Cond.methodLink "MilkRoundLaw" (202 : Nat) yL_balanceBySamples) ∈ lw_all := List.mem_filter.mpr ⟨List.mem_of_getElem? (i := 661) (by decide +kernel), by decide +kernel⟩
theorem q_616 : (Cond.static yL_balanceBySamples) ∈ lw_all := List.mem_filter.mpr ⟨List.mem_of_getElem? (i := 662) (by decide +kernel), by decide +kernel⟩
theorem q_617 : (Cond.codeWith yL_balanceBySamples method_25_code (4 : Nat) (Option.some Jvm.ClassFile.FieldType.int) [((0 : Nat), (8 : Nat), (11 : Nat), (21 : Nat))]) ∈ lw_all := List.mem_filter.mpr ⟨List.mem_of_getElem? (i := 663) (by decide +kernel), by decide +kernel⟩
theorem q_618 : (Cond.methodLink "MilkRoundLaw" (91 : Nat) yX2_balanceBySamples) ∈ lw_all := List.mem_filter.mpr ⟨List.mem_of_getElem? (i := 664) (by decide +kernel), by decide +kernel⟩
theorem q_619 : (Cond.instanceMethod yX2_balanceBySamples) ∈ lw_all := List.mem_filter.mpr ⟨List.mem_of_getElem? (i := 665) (by decide +kernel), by decide +kernel⟩
theorem q_620 : (Cond.selects "MilkRound" yX2_balanceBySamples yX2_balanceBySamples) ∈ lw_all := List.mem_filter.mpr ⟨List.mem_of_getElem? (i := 666) (by decide +kernel), by decide +kernel⟩
theorem q_621 : (Cond.code yX2_balanceBySamples prog_1_method_28_code (2 : Nat) (Option.some Jvm.ClassFile.FieldType.long)) ∈ lw_all := List.mem_filter.mpr ⟨List.mem_of_getElem? (i := 667) (by decide +kernel), by decide +kernel⟩
theorem q_624 : (Cond.instanceMethod yX1_balanceOf) ∈ lw_all := List.mem_filter.mpr ⟨List.mem_of_getElem? (i := 670) (by decide +kernel), by decide +kernel⟩
theorem q_625 : (Cond.code yX1_balanceOf prog_3_method_24_code (5 : Nat) (Option.some Jvm.ClassFile.FieldType.long)) ∈ lw_all := List.mem_filter.mpr ⟨List.mem_of_getElem? (i := 671) (by decide +kernel), by decide +kernel⟩
theorem q_626 : (Cond.methodLink "MilkRoundLaw" (205 : Nat) yL_wayOf) ∈ lw_all := List.mem_filter.mpr ⟨List.mem_of_getElem? (i := 672) (by decide +kernel), by decide +kernel⟩
theorem q_627 : (Cond.static yL_wayOf) ∈ lw_all := List.mem_filter.mpr ⟨List.mem_of_getElem? (i := 673) (by decide +kernel), by decide +kernel⟩
theorem q_628 : (Cond.codeWith yL_wayOf method_26_code (4 : Nat) (Option.some Jvm.ClassFile.FieldType.int) [((0 : Nat), (9 : Nat), (12 : Nat), (21 : Nat))]) ∈ lw_all := List.mem_filter.mpr ⟨List.mem_of_getElem? (i := 674) (by decide +kernel), by decide +kernel⟩
theorem q_629 : (Cond.methodLink "MilkRoundLaw" (94 : Nat) yX2_wayOf) ∈ lw_all := List.mem_filter.mpr ⟨List.mem_of_getElem? (i := 675) (by decide +kernel), by decide +kernel⟩
theorem q_630 : (Cond.instanceMethod yX2_wayOf) ∈ lw_all := List.mem_filter.mpr ⟨List.mem_of_getElem? (i := 676) (by decide +kernel), by decide +kernel⟩
theorem q_631 : (Cond.selects "MilkRound" yX2_wayOf yX2_wayOf) ∈ lw_all := List.mem_filter.mpr ⟨List.mem_of_getElem? (i := 677) (by decide +kernel), by decide +kernel⟩
theorem q_632 : (Cond.code yX2_wayOf prog_1_method_29_code (2 : Nat) (Option.some Jvm.ClassFile.FieldType.char)) ∈ lw_all := List.mem_filter.mpr ⟨List.mem_of_getElem? (i := 678) (by decide +kernel), by decide +kernel⟩
theorem q_633 : (Cond.methodLink "MilkRoundLaw" (208 : Nat) yL_spoiltShare) ∈ lw_all := List.mem_filter.mpr ⟨List.mem_of_getElem? (i := 679) (by decide +kernel), by decide +kernel⟩
theorem q_634 : (Cond.static yL_spoiltShare) ∈ lw_all := List.mem_filter.mpr ⟨List.mem_of_getElem? (i := 680) (by decide +kernel), by decide +kernel⟩
theorem q_635 : (Cond.codeWith yL_spoiltShare method_27_code (3 : Nat) (Option.some Jvm.ClassFile.FieldType.int) [((0 : Nat), (8 : Nat), (11 : Nat), (101 : Nat))]) ∈ lw_all := List.mem_filter.mpr ⟨List.mem_of_getElem? (i := 681) (by decide +kernel), by decide +kernel⟩
theorem q_636 : (Cond.classLink "MilkRoundLaw" (101 : Nat) "java/lang/ArithmeticException") ∈ lw_all := List.mem_filter.mpr ⟨List.mem_of_getElem? (i := 682) (by decide +kernel), by decide +kernel⟩
theorem q_637 : (Cond.instantiable "java/lang/ArithmeticException" (6 : Nat)) ∈ lw_all := List.mem_filter.mpr ⟨List.mem_of_getElem? (i := 683) (by decide +kernel), by decide +kernel⟩
theorem q_638 : (Cond.instanceMethod ⟨"java/lang/ArithmeticException", "<init>", "(Ljava/lang/String;)V"⟩) ∈ lw_all := List.mem_filter.mpr ⟨List.mem_of_getElem? (i := 684) (by decide +kernel), by decide +kernel⟩
theorem q_639 : (Cond.code ⟨"java/lang/ArithmeticException", "<init>", "(Ljava/lang/String;)V"⟩ prog_7_method_2_code (2 : Nat) (Option.none : Option Jvm.ClassFile.FieldType)) ∈ lw_all := List.mem_filter.mpr ⟨List.mem_of_getElem? (i := 685) (by decide +kernel), by decide +kernel⟩
theorem q_640 : (Cond.methodLink "java/lang/ArithmeticException" (7 : Nat) ⟨"java/lang/RuntimeException", "<init>", "(Ljava/lang/String;)V"⟩) ∈ lw_all := List.mem_filter.mpr ⟨List.mem_of_getElem? (i := 686) (by decide +kernel), by decide +kernel⟩
theorem q_641 : (Cond.lays "java/lang/ArithmeticException" "java/lang/Throwable" "backtrace" "Ljava/lang/Object;") ∈ lw_all := List.mem_filter.mpr ⟨List.mem_of_getElem? (i := 687) (by decide +kernel), by decide +kernel⟩
theorem q_642 : (Cond.lays "java/lang/ArithmeticException" "java/lang/Throwable" "detailMessage" "Ljava/lang/String;") ∈ lw_all := List.mem_filter.mpr ⟨List.mem_of_getElem? (i := 688) (by decide +kernel), by decide +kernel⟩
theorem q_643 : (Cond.lays "java/lang/ArithmeticException" "java/lang/Throwable" "cause" "Ljava/lang/Throwable;") ∈ lw_all := List.mem_filter.mpr ⟨List.mem_of_getElem? (i := 689) (by decide +kernel), by decide +kernel⟩
theorem q_644 : (Cond.lays "java/lang/ArithmeticException" "java/lang/Throwable" "stackTrace" "[Ljava/lang/StackTraceElement;") ∈ lw_all := List.mem_filter.mpr ⟨List.mem_of_getElem? (i := 690) (by decide +kernel), by decide +kernel⟩
theorem q_645 : (Cond.lays "java/lang/ArithmeticException" "java/lang/Throwable" "depth" "I") ∈ lw_all := List.mem_filter.mpr ⟨List.mem_of_getElem? (i := 691) (by decide +kernel), by decide +kernel⟩
theorem q_646 : (Cond.lays "java/lang/ArithmeticException" "java/lang/Throwable" "suppressedExceptions" "Ljava/util/List;") ∈ lw_all := List.mem_filter.mpr ⟨List.mem_of_getElem? (i := 692) (by decide +kernel), by decide +kernel⟩
theorem q_649 : (Cond.selects "java/lang/ArithmeticException" ⟨"java/lang/Throwable", "fillInStackTrace", "(I)Ljava/lang/Throwable;"⟩ ⟨"java/lang/Throwable", "fillInStackTrace", "(I)Ljava/lang/Throwable;"⟩) ∈ lw_all := List.mem_filter.mpr ⟨List.mem_of_getElem? (i := 695) (by decide +kernel), by decide +kernel⟩
theorem q_650 : (Cond.methodLink "MilkRoundLaw" (97 : Nat) yX2_spoiltShare) ∈ lw_all := List.mem_filter.mpr ⟨List.mem_of_getElem? (i := 696) (by decide +kernel), by decide +kernel⟩
theorem q_651 : (Cond.instanceMethod yX2_spoiltShare) ∈ lw_all := List.mem_filter.mpr ⟨List.mem_of_getElem? (i := 697) (by decide +kernel), by decide +kernel⟩
theorem q_652 : (Cond.selects "MilkRound" yX2_spoiltShare yX2_spoiltShare) ∈ lw_all := List.mem_filter.mpr ⟨List.mem_of_getElem? (i := 698) (by decide +kernel), by decide +kernel⟩
theorem q_653 : (Cond.code yX2_spoiltShare prog_1_method_30_code (4 : Nat) (Option.some Jvm.ClassFile.FieldType.float)) ∈ lw_all := List.mem_filter.mpr ⟨List.mem_of_getElem? (i := 699) (by decide +kernel), by decide +kernel⟩
theorem q_656 : (Cond.instanceMethod yX1_allLitres) ∈ lw_all := List.mem_filter.mpr ⟨List.mem_of_getElem? (i := 702) (by decide +kernel), by decide +kernel⟩
theorem q_657 : (Cond.code yX1_allLitres prog_3_method_7_code (3 : Nat) (Option.some Jvm.ClassFile.FieldType.int)) ∈ lw_all := List.mem_filter.mpr ⟨List.mem_of_getElem? (i := 703) (by decide +kernel), by decide +kernel⟩
theorem q_658 : (Cond.classLink "MilkRound" (220 : Nat) "java/lang/ArithmeticException") ∈ lw_all := List.mem_filter.mpr ⟨List.mem_of_getElem? (i := 704) (by decide +kernel), by decide +kernel⟩
theorem q_660 : (Cond.methodLink "MilkRound" (224 : Nat) ⟨"java/lang/ArithmeticException", "<init>", "(Ljava/lang/String;)V"⟩) ∈ lw_all := List.mem_filter.mpr ⟨List.mem_of_getElem? (i := 706) (by decide +kernel), by decide +kernel⟩
theorem q_661 : (Cond.methodLink "MilkRoundLaw" (212 : Nat) yL_meanPay) ∈ lw_all := List.mem_filter.mpr ⟨List.mem_of_getElem? (i := 707) (by decide +kernel), by decide +kernel⟩
theorem q_662 : (Cond.static yL_meanPay) ∈ lw_all := List.mem_filter.mpr ⟨List.mem_of_getElem? (i := 708) (by decide +kernel), by decide +kernel⟩
theorem q_663 : (Cond.codeWith yL_meanPay method_28_code (3 : Nat) (Option.some Jvm.ClassFile.FieldType.int) [((0 : Nat), (7 : Nat), (10 : Nat), (101 : Nat))]) ∈ lw_all := List.mem_filter.mpr ⟨List.mem_of_getElem? (i := 709) (by decide +kernel), by decide +kernel⟩
theorem q_664 : (Cond.methodLink "MilkRoundLaw" (103 : Nat) yX2_meanPay) ∈ lw_all := List.mem_filter.mpr ⟨List.mem_of_getElem? (i := 710) (by decide +kernel), by decide +kernel⟩
theorem q_665 : (Cond.instanceMethod yX2_meanPay) ∈ lw_all := List.mem_filter.mpr ⟨List.mem_of_getElem? (i := 711) (by decide +kernel), by decide +kernel⟩
theorem q_666 : (Cond.selects "MilkRound" yX2_meanPay yX2_meanPay) ∈ lw_all := List.mem_filter.mpr ⟨List.mem_of_getElem? (i := 712) (by decide +kernel), by decide +kernel⟩
theorem q_667 : (Cond.code yX2_meanPay prog_1_method_31_code (6 : Nat) (Option.some Jvm.ClassFile.FieldType.double)) ∈ lw_all := List.mem_filter.mpr ⟨List.mem_of_getElem? (i := 713) (by decide +kernel), by decide +kernel⟩
theorem q_669 : (Cond.classLink "MilkRoundLaw" (108 : Nat) "MilkRoundModel") ∈ lw_all := List.mem_filter.mpr ⟨List.mem_of_getElem? (i := 715) (by decide +kernel), by decide +kernel⟩
theorem q_670 : (Cond.instantiable "MilkRoundModel" (21 : Nat)) ∈ lw_all := List.mem_filter.mpr ⟨List.mem_of_getElem? (i := 716) (by decide +kernel), by decide +kernel⟩
theorem q_671 : (Cond.methodLink "MilkRoundLaw" (110 : Nat) yX3_init) ∈ lw_all := List.mem_filter.mpr ⟨List.mem_of_getElem? (i := 717) (by decide +kernel), by decide +kernel⟩
theorem q_672 : (Cond.instanceMethod yX3_init) ∈ lw_all := List.mem_filter.mpr ⟨List.mem_of_getElem? (i := 718) (by decide +kernel), by decide +kernel⟩
theorem q_673 : (Cond.code yX3_init prog_5_method_1_code (1 : Nat) (Option.none : Option Jvm.ClassFile.FieldType)) ∈ lw_all := List.mem_filter.mpr ⟨List.mem_of_getElem? (i := 719) (by decide +kernel), by decide +kernel⟩
theorem q_674 : (Cond.methodLink "MilkRoundModel" (1 : Nat) ⟨"java/lang/Object", "<init>", "()V"⟩) ∈ lw_all := List.mem_filter.mpr ⟨List.mem_of_getElem? (i := 720) (by decide +kernel), by decide +kernel⟩
theorem q_675 : (Cond.fieldLink "MilkRoundModel" (77 : Nat) "MilkRoundModel" "day" "I") ∈ lw_all := List.mem_filter.mpr ⟨List.mem_of_getElem? (i := 721) (by decide +kernel), by decide +kernel⟩
theorem q_676 : (Cond.fieldLink "MilkRoundModel" (7 : Nat) "MilkRoundModel" "rooms" "[I") ∈ lw_all := List.mem_filter.mpr ⟨List.mem_of_getElem? (i := 722) (by decide +kernel), by decide +kernel⟩
theorem q_677 : (Cond.fieldLink "MilkRoundModel" (13 : Nat) "MilkRoundModel" "tanks" "[I") ∈ lw_all := List.mem_filter.mpr ⟨List.mem_of_getElem? (i := 723) (by decide +kernel), by decide +kernel⟩
theorem q_678 : (Cond.fieldLink "MilkRoundModel" (16 : Nat) "MilkRoundModel" "bests" "[I") ∈ lw_all := List.mem_filter.mpr ⟨List.mem_of_getElem? (i := 724) (by decide +kernel), by decide +kernel⟩
theorem q_679 : (Cond.fieldLink "MilkRoundModel" (19 : Nat) "MilkRoundModel" "cows" "[I") ∈ lw_all := List.mem_filter.mpr ⟨List.mem_of_getElem? (i := 725) (by decide +kernel), by decide +kernel⟩
theorem q_680 : (Cond.fieldLink "MilkRoundModel" (60 : Nat) "MilkRoundModel" "farms" "I") ∈ lw_all := List.mem_filter.mpr ⟨List.mem_of_getElem? (i := 726) (by decide +kernel), by decide +kernel⟩
theorem q_681 : (Cond.fieldLink "MilkRoundModel" (22 : Nat) "MilkRoundModel" "vatRooms" "[I") ∈ lw_all := List.mem_filter.mpr ⟨List.mem_of_getElem? (i := 727) (by decide +kernel), by decide +kernel⟩
theorem q_682 : (Cond.fieldLink "MilkRoundModel" (25 : Nat) "MilkRoundModel" "inVats" "[I") ∈ lw_all := List.mem_filter.mpr ⟨List.mem_of_getElem? (i := 728) (by decide +kernel), by decide +kernel⟩
theorem q_683 : (Cond.fieldLink "MilkRoundModel" (28 : Nat) "MilkRoundModel" "vatShares" "[I") ∈ lw_all := List.mem_filter.mpr ⟨List.mem_of_getElem? (i := 729) (by decide +kernel), by decide +kernel⟩
theorem q_684 : (Cond.fieldLink "MilkRoundModel" (84 : Nat) "MilkRoundModel" "vats" "I") ∈ lw_all := List.mem_filter.mpr ⟨List.mem_of_getElem? (i := 730) (by decide +kernel), by decide +kernel⟩
theorem q_685 : (Cond.fieldLink "MilkRoundModel" (87 : Nat) "MilkRoundModel" "isUnderWay" "Z") ∈ lw_all := List.mem_filter.mpr ⟨List.mem_of_getElem? (i := 731) (by decide +kernel), by decide +kernel⟩
theorem q_686 : (Cond.fieldLink "MilkRoundModel" (31 : Nat) "MilkRoundModel" "isVisited" "[Z") ∈ lw_all := List.mem_filter.mpr ⟨List.mem_of_getElem? (i := 732) (by decide +kernel), by decide +kernel⟩
theorem q_687 : (Cond.fieldLink "MilkRoundModel" (91 : Nat) "MilkRoundModel" "rounds" "I") ∈ lw_all := List.mem_filter.mpr ⟨List.mem_of_getElem? (i := 733) (by decide +kernel), by decide +kernel⟩
theorem q_688 : (Cond.fieldLink "MilkRoundModel" (97 : Nat) "MilkRoundModel" "inTanker" "I") ∈ lw_all := List.mem_filter.mpr ⟨List.mem_of_getElem? (i := 734) (by decide +kernel), by decide +kernel⟩
theorem q_689 : (Cond.fieldLink "MilkRoundModel" (35 : Nat) "MilkRoundModel" "farmOf" "[I") ∈ lw_all := List.mem_filter.mpr ⟨List.mem_of_getElem? (i := 735) (by decide +kernel), by decide +kernel⟩
theorem q_690 : (Cond.fieldLink "MilkRoundModel" (38 : Nat) "MilkRoundModel" "litres" "[I") ∈ lw_all := List.mem_filter.mpr ⟨List.mem_of_getElem? (i := 736) (by decide +kernel), by decide +kernel⟩
theorem q_691 : (Cond.fieldLink "MilkRoundModel" (41 : Nat) "MilkRoundModel" "grades" "[C") ∈ lw_all := List.mem_filter.mpr ⟨List.mem_of_getElem? (i := 737) (by decide +kernel), by decide +kernel⟩
theorem q_692 : (Cond.fieldLink "MilkRoundModel" (45 : Nat) "MilkRoundModel" "ways" "[I") ∈ lw_all := List.mem_filter.mpr ⟨List.mem_of_getElem? (i := 738) (by decide +kernel), by decide +kernel⟩
theorem q_693 : (Cond.fieldLink "MilkRoundModel" (94 : Nat) "MilkRoundModel" "samples" "I") ∈ lw_all := List.mem_filter.mpr ⟨List.mem_of_getElem? (i := 739) (by decide +kernel), by decide +kernel⟩
theorem q_694 : (Cond.fieldLink "MilkRoundModel" (107 : Nat) "MilkRoundModel" "batches" "I") ∈ lw_all := List.mem_filter.mpr ⟨List.mem_of_getElem? (i := 740) (by decide +kernel), by decide +kernel⟩
theorem q_695 : (Cond.fieldLink "MilkRoundModel" (48 : Nat) "MilkRoundModel" "thrown" "I") ∈ lw_all := List.mem_filter.mpr ⟨List.mem_of_getElem? (i := 741) (by decide +kernel), by decide +kernel⟩
theorem q_696 : (Cond.lays "MilkRoundModel" "MilkRoundModel" "day" "I") ∈ lw_all := List.mem_filter.mpr ⟨List.mem_of_getElem? (i := 742) (by decide +kernel), by decide +kernel⟩
theorem q_698 : (Cond.laysFinal "MilkRoundModel" "MilkRoundModel" "rooms" "[I") ∈ lw_all := List.mem_filter.mpr ⟨List.mem_of_getElem? (i := 744) (by decide +kernel), by decide +kernel⟩
theorem q_700 : (Cond.laysFinal "MilkRoundModel" "MilkRoundModel" "tanks" "[I") ∈ lw_all := List.mem_filter.mpr ⟨List.mem_of_getElem? (i := 746) (by decide +kernel), by decide +kernel⟩
theorem q_702 : (Cond.laysFinal "MilkRoundModel" "MilkRoundModel" "bests" "[I") ∈ lw_all := List.mem_filter.mpr ⟨List.mem_of_getElem? (i := 748) (by decide +kernel), by decide +kernel⟩
theorem q_704 : (Cond.laysFinal "MilkRoundModel" "MilkRoundModel" "cows" "[I") ∈ lw_all := List.mem_filter.mpr ⟨List.mem_of_getElem? (i := 750) (by decide +kernel), by decide +kernel⟩
theorem q_706 : (Cond.lays "MilkRoundModel" "MilkRoundModel" "farms" "I") ∈ lw_all := List.mem_filter.mpr ⟨List.mem_of_getElem? (i := 752) (by decide +kernel), by decide +kernel⟩
theorem q_708 : (Cond.laysFinal "MilkRoundModel" "MilkRoundModel" "vatRooms" "[I") ∈ lw_all := List.mem_filter.mpr ⟨List.mem_of_getElem? (i := 754) (by decide +kernel), by decide +kernel⟩
theorem q_710 : (Cond.laysFinal "MilkRoundModel" "MilkRoundModel" "inVats" "[I") ∈ lw_all := List.mem_filter.mpr ⟨List.mem_of_getElem? (i := 756) (by decide +kernel), by decide +kernel⟩
theorem q_712 : (Cond.laysFinal "MilkRoundModel" "MilkRoundModel" "vatShares" "[I") ∈ lw_all := List.mem_filter.mpr ⟨List.mem_of_getElem? (i := 758) (by decide +kernel), by decide +kernel⟩
theorem q_714 : (Cond.lays "MilkRoundModel" "MilkRoundModel" "vats" "I") ∈ lw_all := List.mem_filter.mpr ⟨List.mem_of_getElem? (i := 760) (by decide +kernel), by decide +kernel⟩
theorem q_716 : (Cond.lays "MilkRoundModel" "MilkRoundModel" "isUnderWay" "Z") ∈ lw_all := List.mem_filter.mpr ⟨List.mem_of_getElem? (i := 762) (by decide +kernel), by decide +kernel⟩
theorem q_718 : (Cond.laysFinal "MilkRoundModel" "MilkRoundModel" "isVisited" "[Z") ∈ lw_all := List.mem_filter.mpr ⟨List.mem_of_getElem? (i := 764) (by decide +kernel), by decide +kernel⟩
theorem q_720 : (Cond.lays "MilkRoundModel" "MilkRoundModel" "rounds" "I") ∈ lw_all := List.mem_filter.mpr ⟨List.mem_of_getElem? (i := 766) (by decide +kernel), by decide +kernel⟩
theorem q_722 : (Cond.lays "MilkRoundModel" "MilkRoundModel" "inTanker" "I") ∈ lw_all := List.mem_filter.mpr ⟨List.mem_of_getElem? (i := 768) (by decide +kernel), by decide +kernel⟩
theorem q_724 : (Cond.laysFinal "MilkRoundModel" "MilkRoundModel" "farmOf" "[I") ∈ lw_all := List.mem_filter.mpr ⟨List.mem_of_getElem? (i := 770) (by decide +kernel), by decide +kernel⟩
theorem q_726 : (Cond.laysFinal "MilkRoundModel" "MilkRoundModel" "litres" "[I") ∈ lw_all := List.mem_filter.mpr ⟨List.mem_of_getElem? (i := 772) (by decide +kernel), by decide +kernel⟩
theorem q_728 : (Cond.laysFinal "MilkRoundModel" "MilkRoundModel" "grades" "[C") ∈ lw_all := List.mem_filter.mpr ⟨List.mem_of_getElem? (i := 774) (by decide +kernel), by decide +kernel⟩
theorem q_730 : (Cond.laysFinal "MilkRoundModel" "MilkRoundModel" "ways" "[I") ∈ lw_all := List.mem_filter.mpr ⟨List.mem_of_getElem? (i := 776) (by decide +kernel), by decide +kernel⟩
theorem q_732 : (Cond.lays "MilkRoundModel" "MilkRoundModel" "samples" "I") ∈ lw_all := List.mem_filter.mpr ⟨List.mem_of_getElem? (i := 778) (by decide +kernel), by decide +kernel⟩
theorem q_734 : (Cond.lays "MilkRoundModel" "MilkRoundModel" "batches" "I") ∈ lw_all := List.mem_filter.mpr ⟨List.mem_of_getElem? (i := 780) (by decide +kernel), by decide +kernel⟩
theorem q_736 : (Cond.lays "MilkRoundModel" "MilkRoundModel" "thrown" "I") ∈ lw_all := List.mem_filter.mpr ⟨List.mem_of_getElem? (i := 782) (by decide +kernel), by decide +kernel⟩
theorem q_739 : (Cond.methodLink "MilkRoundLaw" (117 : Nat) yX3_thrown) ∈ lw_all := List.mem_filter.mpr ⟨List.mem_of_getElem? (i := 785) (by decide +kernel), by decide +kernel⟩
theorem q_740 : (Cond.instanceMethod yX3_thrown) ∈ lw_all := List.mem_filter.mpr ⟨List.mem_of_getElem? (i := 786) (by decide +kernel), by decide +kernel⟩
theorem q_741 : (Cond.selects "MilkRoundModel" yX3_thrown yX3_thrown) ∈ lw_all := List.mem_filter.mpr ⟨List.mem_of_getElem? (i := 787) (by decide +kernel), by decide +kernel⟩
theorem q_742 : (Cond.code yX3_thrown prog_5_method_2_code (1 : Nat) (Option.some Jvm.ClassFile.FieldType.int)) ∈ lw_all := List.mem_filter.mpr ⟨List.mem_of_getElem? (i := 788) (by decide +kernel), by decide +kernel⟩
theorem q_743 : (Cond.methodLink "MilkRoundLaw" (116 : Nat) yX3_addFarm) ∈ lw_all := List.mem_filter.mpr ⟨List.mem_of_getElem? (i := 789) (by decide +kernel), by decide +kernel⟩
theorem q_744 : (Cond.instanceMethod yX3_addFarm) ∈ lw_all := List.mem_filter.mpr ⟨List.mem_of_getElem? (i := 790) (by decide +kernel), by decide +kernel⟩
theorem q_745 : (Cond.selects "MilkRoundModel" yX3_addFarm yX3_addFarm) ∈ lw_all := List.mem_filter.mpr ⟨List.mem_of_getElem? (i := 791) (by decide +kernel), by decide +kernel⟩
theorem q_746 : (Cond.code yX3_addFarm prog_5_method_4_code (2 : Nat) (Option.some Jvm.ClassFile.FieldType.int)) ∈ lw_all := List.mem_filter.mpr ⟨List.mem_of_getElem? (i := 792) (by decide +kernel), by decide +kernel⟩
theorem q_747 : (Cond.constantLong "MilkRoundModel" (52 : Nat) (10 : Int64)) ∈ lw_all := List.mem_filter.mpr ⟨List.mem_of_getElem? (i := 793) (by decide +kernel), by decide +kernel⟩
theorem q_748 : (Cond.constantLong "MilkRoundModel" (54 : Nat) (200 : Int64)) ∈ lw_all := List.mem_filter.mpr ⟨List.mem_of_getElem? (i := 794) (by decide +kernel), by decide +kernel⟩
theorem q_749 : (Cond.methodLink "MilkRoundModel" (56 : Nat) yX3_in) ∈ lw_all := List.mem_filter.mpr ⟨List.mem_of_getElem? (i := 795) (by decide +kernel), by decide +kernel⟩
theorem q_750 : (Cond.static yX3_in) ∈ lw_all := List.mem_filter.mpr ⟨List.mem_of_getElem? (i := 796) (by decide +kernel), by decide +kernel⟩
theorem q_751 : (Cond.code yX3_in prog_5_method_3_code (6 : Nat) (Option.some Jvm.ClassFile.FieldType.boolean)) ∈ lw_all := List.mem_filter.mpr ⟨List.mem_of_getElem? (i := 797) (by decide +kernel), by decide +kernel⟩
theorem q_752 : (Cond.methodLink "MilkRoundLaw" (123 : Nat) yX3_addCow) ∈ lw_all := List.mem_filter.mpr ⟨List.mem_of_getElem? (i := 798) (by decide +kernel), by decide +kernel⟩
theorem q_753 : (Cond.instanceMethod yX3_addCow) ∈ lw_all := List.mem_filter.mpr ⟨List.mem_of_getElem? (i := 799) (by decide +kernel), by decide +kernel⟩
theorem q_754 : (Cond.selects "MilkRoundModel" yX3_addCow yX3_addCow) ∈ lw_all := List.mem_filter.mpr ⟨List.mem_of_getElem? (i := 800) (by decide +kernel), by decide +kernel⟩
theorem q_755 : (Cond.code yX3_addCow prog_5_method_6_code (3 : Nat) (Option.some Jvm.ClassFile.FieldType.int)) ∈ lw_all := List.mem_filter.mpr ⟨List.mem_of_getElem? (i := 801) (by decide +kernel), by decide +kernel⟩
theorem q_756 : (Cond.methodLink "MilkRoundModel" (63 : Nat) yX3_isFarm) ∈ lw_all := List.mem_filter.mpr ⟨List.mem_of_getElem? (i := 802) (by decide +kernel), by decide +kernel⟩
theorem q_758 : (Cond.instanceMethod yX3_isFarm) ∈ lw_all := List.mem_filter.mpr ⟨List.mem_of_getElem? (i := 804) (by decide +kernel), by decide +kernel⟩
theorem q_759 : (Cond.code yX3_isFarm prog_5_method_5_code (2 : Nat) (Option.some Jvm.ClassFile.FieldType.boolean)) ∈ lw_all := List.mem_filter.mpr ⟨List.mem_of_getElem? (i := 805) (by decide +kernel), by decide +kernel⟩
theorem q_760 : (Cond.constantLong "MilkRoundModel" (67 : Nat) (5 : Int64)) ∈ lw_all := List.mem_filter.mpr ⟨List.mem_of_getElem? (i := 806) (by decide +kernel), by decide +kernel⟩
theorem q_761 : (Cond.constantLong "MilkRoundModel" (69 : Nat) (30 : Int64)) ∈ lw_all := List.mem_filter.mpr ⟨List.mem_of_getElem? (i := 807) (by decide +kernel), by decide +kernel⟩
theorem q_762 : (Cond.methodLink "MilkRoundLaw" (126 : Nat) yX3_milkOf) ∈ lw_all := List.mem_filter.mpr ⟨List.mem_of_getElem? (i := 808) (by decide +kernel), by decide +kernel⟩
theorem q_763 : (Cond.instanceMethod yX3_milkOf) ∈ lw_all := List.mem_filter.mpr ⟨List.mem_of_getElem? (i := 809) (by decide +kernel), by decide +kernel⟩
theorem q_764 : (Cond.selects "MilkRoundModel" yX3_milkOf yX3_milkOf) ∈ lw_all := List.mem_filter.mpr ⟨List.mem_of_getElem? (i := 810) (by decide +kernel), by decide +kernel⟩
theorem q_765 : (Cond.code yX3_milkOf prog_5_method_8_code (5 : Nat) (Option.some Jvm.ClassFile.FieldType.int)) ∈ lw_all := List.mem_filter.mpr ⟨List.mem_of_getElem? (i := 811) (by decide +kernel), by decide +kernel⟩
theorem q_766 : (Cond.constantLong "MilkRoundModel" (71 : Nat) (999 : Int64)) ∈ lw_all := List.mem_filter.mpr ⟨List.mem_of_getElem? (i := 812) (by decide +kernel), by decide +kernel⟩
theorem q_767 : (Cond.methodLink "MilkRoundModel" (73 : Nat) yX3_gives) ∈ lw_all := List.mem_filter.mpr ⟨List.mem_of_getElem? (i := 813) (by decide +kernel), by decide +kernel⟩
theorem q_768 : (Cond.static yX3_gives) ∈ lw_all := List.mem_filter.mpr ⟨List.mem_of_getElem? (i := 814) (by decide +kernel), by decide +kernel⟩
theorem q_769 : (Cond.code yX3_gives prog_5_method_7_code (4 : Nat) (Option.some Jvm.ClassFile.FieldType.int)) ∈ lw_all := List.mem_filter.mpr ⟨List.mem_of_getElem? (i := 815) (by decide +kernel), by decide +kernel⟩
theorem q_770 : (Cond.methodLink "MilkRoundLaw" (129 : Nat) yX3_inTank) ∈ lw_all := List.mem_filter.mpr ⟨List.mem_of_getElem? (i := 816) (by decide +kernel), by decide +kernel⟩
theorem q_771 : (Cond.instanceMethod yX3_inTank) ∈ lw_all := List.mem_filter.mpr ⟨List.mem_of_getElem? (i := 817) (by decide +kernel), by decide +kernel⟩
theorem q_772 : (Cond.selects "MilkRoundModel" yX3_inTank yX3_inTank) ∈ lw_all := List.mem_filter.mpr ⟨List.mem_of_getElem? (i := 818) (by decide +kernel), by decide +kernel⟩
theorem q_773 : (Cond.code yX3_inTank prog_5_method_9_code (2 : Nat) (Option.some Jvm.ClassFile.FieldType.int)) ∈ lw_all := List.mem_filter.mpr ⟨List.mem_of_getElem? (i := 819) (by decide +kernel), by decide +kernel⟩
theorem q_774 : (Cond.methodLink "MilkRoundLaw" (132 : Nat) yX3_pass) ∈ lw_all := List.mem_filter.mpr ⟨List.mem_of_getElem? (i := 820) (by decide +kernel), by decide +kernel⟩
theorem q_775 : (Cond.instanceMethod yX3_pass) ∈ lw_all := List.mem_filter.mpr ⟨List.mem_of_getElem? (i := 821) (by decide +kernel), by decide +kernel⟩
theorem q_776 : (Cond.selects "MilkRoundModel" yX3_pass yX3_pass) ∈ lw_all := List.mem_filter.mpr ⟨List.mem_of_getElem? (i := 822) (by decide +kernel), by decide +kernel⟩
theorem q_777 : (Cond.code yX3_pass prog_5_method_10_code (9 : Nat) (Option.some Jvm.ClassFile.FieldType.int)) ∈ lw_all := List.mem_filter.mpr ⟨List.mem_of_getElem? (i := 823) (by decide +kernel), by decide +kernel⟩
theorem q_778 : (Cond.methodLink "MilkRoundLaw" (136 : Nat) yX3_day) ∈ lw_all := List.mem_filter.mpr ⟨List.mem_of_getElem? (i := 824) (by decide +kernel), by decide +kernel⟩
theorem q_779 : (Cond.instanceMethod yX3_day) ∈ lw_all := List.mem_filter.mpr ⟨List.mem_of_getElem? (i := 825) (by decide +kernel), by decide +kernel⟩
theorem q_780 : (Cond.selects "MilkRoundModel" yX3_day yX3_day) ∈ lw_all := List.mem_filter.mpr ⟨List.mem_of_getElem? (i := 826) (by decide +kernel), by decide +kernel⟩
theorem q_781 : (Cond.code yX3_day prog_5_method_11_code (1 : Nat) (Option.some Jvm.ClassFile.FieldType.int)) ∈ lw_all := List.mem_filter.mpr ⟨List.mem_of_getElem? (i := 827) (by decide +kernel), by decide +kernel⟩
theorem q_782 : (Cond.methodLink "MilkRoundLaw" (139 : Nat) yX3_addVat) ∈ lw_all := List.mem_filter.mpr ⟨List.mem_of_getElem? (i := 828) (by decide +kernel), by decide +kernel⟩
theorem q_783 : (Cond.instanceMethod yX3_addVat) ∈ lw_all := List.mem_filter.mpr ⟨List.mem_of_getElem? (i := 829) (by decide +kernel), by decide +kernel⟩
theorem q_784 : (Cond.selects "MilkRoundModel" yX3_addVat yX3_addVat) ∈ lw_all := List.mem_filter.mpr ⟨List.mem_of_getElem? (i := 830) (by decide +kernel), by decide +kernel⟩
theorem q_785 : (Cond.code yX3_addVat prog_5_method_12_code (2 : Nat) (Option.some Jvm.ClassFile.FieldType.int)) ∈ lw_all := List.mem_filter.mpr ⟨List.mem_of_getElem? (i := 831) (by decide +kernel), by decide +kernel⟩
theorem q_786 : (Cond.constantLong "MilkRoundModel" (80 : Nat) (100 : Int64)) ∈ lw_all := List.mem_filter.mpr ⟨List.mem_of_getElem? (i := 832) (by decide +kernel), by decide +kernel⟩
theorem q_787 : (Cond.constantLong "MilkRoundModel" (82 : Nat) (900 : Int64)) ∈ lw_all := List.mem_filter.mpr ⟨List.mem_of_getElem? (i := 833) (by decide +kernel), by decide +kernel⟩
theorem q_788 : (Cond.methodLink "MilkRoundLaw" (143 : Nat) yX3_beginRound) ∈ lw_all := List.mem_filter.mpr ⟨List.mem_of_getElem? (i := 834) (by decide +kernel), by decide +kernel⟩
theorem q_789 : (Cond.instanceMethod yX3_beginRound) ∈ lw_all := List.mem_filter.mpr ⟨List.mem_of_getElem? (i := 835) (by decide +kernel), by decide +kernel⟩
theorem q_790 : (Cond.selects "MilkRoundModel" yX3_beginRound yX3_beginRound) ∈ lw_all := List.mem_filter.mpr ⟨List.mem_of_getElem? (i := 836) (by decide +kernel), by decide +kernel⟩
theorem q_791 : (Cond.code yX3_beginRound prog_5_method_13_code (2 : Nat) (Option.some Jvm.ClassFile.FieldType.int)) ∈ lw_all := List.mem_filter.mpr ⟨List.mem_of_getElem? (i := 837) (by decide +kernel), by decide +kernel⟩
theorem q_792 : (Cond.methodLink "MilkRoundLaw" (146 : Nat) yX3_visit) ∈ lw_all := List.mem_filter.mpr ⟨List.mem_of_getElem? (i := 838) (by decide +kernel), by decide +kernel⟩
theorem q_793 : (Cond.instanceMethod yX3_visit) ∈ lw_all := List.mem_filter.mpr ⟨List.mem_of_getElem? (i := 839) (by decide +kernel), by decide +kernel⟩
theorem q_794 : (Cond.selects "MilkRoundModel" yX3_visit yX3_visit) ∈ lw_all := List.mem_filter.mpr ⟨List.mem_of_getElem? (i := 840) (by decide +kernel), by decide +kernel⟩
theorem q_795 : (Cond.code yX3_visit prog_5_method_14_code (4 : Nat) (Option.some Jvm.ClassFile.FieldType.int)) ∈ lw_all := List.mem_filter.mpr ⟨List.mem_of_getElem? (i := 841) (by decide +kernel), by decide +kernel⟩
theorem q_796 : (Cond.methodLink "MilkRoundLaw" (149 : Nat) yX3_endRound) ∈ lw_all := List.mem_filter.mpr ⟨List.mem_of_getElem? (i := 842) (by decide +kernel), by decide +kernel⟩
theorem q_797 : (Cond.instanceMethod yX3_endRound) ∈ lw_all := List.mem_filter.mpr ⟨List.mem_of_getElem? (i := 843) (by decide +kernel), by decide +kernel⟩
theorem q_798 : (Cond.selects "MilkRoundModel" yX3_endRound yX3_endRound) ∈ lw_all := List.mem_filter.mpr ⟨List.mem_of_getElem? (i := 844) (by decide +kernel), by decide +kernel⟩
theorem q_799 : (Cond.code yX3_endRound prog_5_method_17_code (4 : Nat) (Option.some Jvm.ClassFile.FieldType.int)) ∈ lw_all := List.mem_filter.mpr ⟨List.mem_of_getElem? (i := 845) (by decide +kernel), by decide +kernel⟩
theorem q_800 : (Cond.methodLink "MilkRoundModel" (100 : Nat) yX3_isVat) ∈ lw_all := List.mem_filter.mpr ⟨List.mem_of_getElem? (i := 846) (by decide +kernel), by decide +kernel⟩
theorem q_802 : (Cond.instanceMethod yX3_isVat) ∈ lw_all := List.mem_filter.mpr ⟨List.mem_of_getElem? (i := 848) (by decide +kernel), by decide +kernel⟩
theorem q_803 : (Cond.code yX3_isVat prog_5_method_15_code (2 : Nat) (Option.some Jvm.ClassFile.FieldType.boolean)) ∈ lw_all := List.mem_filter.mpr ⟨List.mem_of_getElem? (i := 849) (by decide +kernel), by decide +kernel⟩
theorem q_804 : (Cond.methodLink "MilkRoundModel" (103 : Nat) yX3_onWay) ∈ lw_all := List.mem_filter.mpr ⟨List.mem_of_getElem? (i := 850) (by decide +kernel), by decide +kernel⟩
theorem q_806 : (Cond.instanceMethod yX3_onWay) ∈ lw_all := List.mem_filter.mpr ⟨List.mem_of_getElem? (i := 852) (by decide +kernel), by decide +kernel⟩
theorem q_807 : (Cond.code yX3_onWay prog_5_method_16_code (4 : Nat) (Option.some Jvm.ClassFile.FieldType.int)) ∈ lw_all := List.mem_filter.mpr ⟨List.mem_of_getElem? (i := 853) (by decide +kernel), by decide +kernel⟩
theorem q_808 : (Cond.methodLink "MilkRoundLaw" (153 : Nat) yX3_inTanker) ∈ lw_all := List.mem_filter.mpr ⟨List.mem_of_getElem? (i := 854) (by decide +kernel), by decide +kernel⟩
theorem q_809 : (Cond.instanceMethod yX3_inTanker) ∈ lw_all := List.mem_filter.mpr ⟨List.mem_of_getElem? (i := 855) (by decide +kernel), by decide +kernel⟩
theorem q_810 : (Cond.selects "MilkRoundModel" yX3_inTanker yX3_inTanker) ∈ lw_all := List.mem_filter.mpr ⟨List.mem_of_getElem? (i := 856) (by decide +kernel), by decide +kernel⟩
theorem q_811 : (Cond.code yX3_inTanker prog_5_method_18_code (1 : Nat) (Option.some Jvm.ClassFile.FieldType.int)) ∈ lw_all := List.mem_filter.mpr ⟨List.mem_of_getElem? (i := 857) (by decide +kernel), by decide +kernel⟩
theorem q_812 : (Cond.methodLink "MilkRoundLaw" (156 : Nat) yX3_inVat) ∈ lw_all := List.mem_filter.mpr ⟨List.mem_of_getElem? (i := 858) (by decide +kernel), by decide +kernel⟩
theorem q_813 : (Cond.instanceMethod yX3_inVat) ∈ lw_all := List.mem_filter.mpr ⟨List.mem_of_getElem? (i := 859) (by decide +kernel), by decide +kernel⟩
theorem q_814 : (Cond.selects "MilkRoundModel" yX3_inVat yX3_inVat) ∈ lw_all := List.mem_filter.mpr ⟨List.mem_of_getElem? (i := 860) (by decide +kernel), by decide +kernel⟩
theorem q_815 : (Cond.code yX3_inVat prog_5_method_19_code (2 : Nat) (Option.some Jvm.ClassFile.FieldType.int)) ∈ lw_all := List.mem_filter.mpr ⟨List.mem_of_getElem? (i := 861) (by decide +kernel), by decide +kernel⟩
theorem q_816 : (Cond.methodLink "MilkRoundLaw" (159 : Nat) yX3_bestVat) ∈ lw_all := List.mem_filter.mpr ⟨List.mem_of_getElem? (i := 862) (by decide +kernel), by decide +kernel⟩
theorem q_817 : (Cond.instanceMethod yX3_bestVat) ∈ lw_all := List.mem_filter.mpr ⟨List.mem_of_getElem? (i := 863) (by decide +kernel), by decide +kernel⟩
theorem q_818 : (Cond.selects "MilkRoundModel" yX3_bestVat yX3_bestVat) ∈ lw_all := List.mem_filter.mpr ⟨List.mem_of_getElem? (i := 864) (by decide +kernel), by decide +kernel⟩
theorem q_819 : (Cond.code yX3_bestVat prog_5_method_20_code (5 : Nat) (Option.some Jvm.ClassFile.FieldType.int)) ∈ lw_all := List.mem_filter.mpr ⟨List.mem_of_getElem? (i := 865) (by decide +kernel), by decide +kernel⟩
theorem q_820 : (Cond.methodLink "MilkRoundLaw" (162 : Nat) yX3_close) ∈ lw_all := List.mem_filter.mpr ⟨List.mem_of_getElem? (i := 866) (by decide +kernel), by decide +kernel⟩
theorem q_821 : (Cond.instanceMethod yX3_close) ∈ lw_all := List.mem_filter.mpr ⟨List.mem_of_getElem? (i := 867) (by decide +kernel), by decide +kernel⟩
theorem q_822 : (Cond.selects "MilkRoundModel" yX3_close yX3_close) ∈ lw_all := List.mem_filter.mpr ⟨List.mem_of_getElem? (i := 868) (by decide +kernel), by decide +kernel⟩
theorem q_823 : (Cond.code yX3_close prog_5_method_21_code (3 : Nat) (Option.some Jvm.ClassFile.FieldType.int)) ∈ lw_all := List.mem_filter.mpr ⟨List.mem_of_getElem? (i := 869) (by decide +kernel), by decide +kernel⟩
theorem q_824 : (Cond.methodLink "MilkRoundLaw" (166 : Nat) yX3_samples) ∈ lw_all := List.mem_filter.mpr ⟨List.mem_of_getElem? (i := 870) (by decide +kernel), by decide +kernel⟩
theorem q_825 : (Cond.instanceMethod yX3_samples) ∈ lw_all := List.mem_filter.mpr ⟨List.mem_of_getElem? (i := 871) (by decide +kernel), by decide +kernel⟩
theorem q_826 : (Cond.selects "MilkRoundModel" yX3_samples yX3_samples) ∈ lw_all := List.mem_filter.mpr ⟨List.mem_of_getElem? (i := 872) (by decide +kernel), by decide +kernel⟩
theorem q_827 : (Cond.code yX3_samples prog_5_method_22_code (1 : Nat) (Option.some Jvm.ClassFile.FieldType.int)) ∈ lw_all := List.mem_filter.mpr ⟨List.mem_of_getElem? (i := 873) (by decide +kernel), by decide +kernel⟩
theorem q_828 : (Cond.methodLink "MilkRoundLaw" (169 : Nat) yX3_farmOf) ∈ lw_all := List.mem_filter.mpr ⟨List.mem_of_getElem? (i := 874) (by decide +kernel), by decide +kernel⟩
theorem q_829 : (Cond.instanceMethod yX3_farmOf) ∈ lw_all := List.mem_filter.mpr ⟨List.mem_of_getElem? (i := 875) (by decide +kernel), by decide +kernel⟩
theorem q_830 : (Cond.selects "MilkRoundModel" yX3_farmOf yX3_farmOf) ∈ lw_all := List.mem_filter.mpr ⟨List.mem_of_getElem? (i := 876) (by decide +kernel), by decide +kernel⟩
theorem q_831 : (Cond.code yX3_farmOf prog_5_method_24_code (2 : Nat) (Option.some Jvm.ClassFile.FieldType.int)) ∈ lw_all := List.mem_filter.mpr ⟨List.mem_of_getElem? (i := 877) (by decide +kernel), by decide +kernel⟩
theorem q_832 : (Cond.methodLink "MilkRoundModel" (110 : Nat) yX3_isSample) ∈ lw_all := List.mem_filter.mpr ⟨List.mem_of_getElem? (i := 878) (by decide +kernel), by decide +kernel⟩
theorem q_834 : (Cond.instanceMethod yX3_isSample) ∈ lw_all := List.mem_filter.mpr ⟨List.mem_of_getElem? (i := 880) (by decide +kernel), by decide +kernel⟩
theorem q_835 : (Cond.code yX3_isSample prog_5_method_23_code (2 : Nat) (Option.some Jvm.ClassFile.FieldType.boolean)) ∈ lw_all := List.mem_filter.mpr ⟨List.mem_of_getElem? (i := 881) (by decide +kernel), by decide +kernel⟩
theorem q_836 : (Cond.methodLink "MilkRoundLaw" (172 : Nat) yX3_litres) ∈ lw_all := List.mem_filter.mpr ⟨List.mem_of_getElem? (i := 882) (by decide +kernel), by decide +kernel⟩
theorem q_837 : (Cond.instanceMethod yX3_litres) ∈ lw_all := List.mem_filter.mpr ⟨List.mem_of_getElem? (i := 883) (by decide +kernel), by decide +kernel⟩
theorem q_838 : (Cond.selects "MilkRoundModel" yX3_litres yX3_litres) ∈ lw_all := List.mem_filter.mpr ⟨List.mem_of_getElem? (i := 884) (by decide +kernel), by decide +kernel⟩
theorem q_839 : (Cond.code yX3_litres prog_5_method_25_code (2 : Nat) (Option.some Jvm.ClassFile.FieldType.int)) ∈ lw_all := List.mem_filter.mpr ⟨List.mem_of_getElem? (i := 885) (by decide +kernel), by decide +kernel⟩
theorem q_840 : (Cond.methodLink "MilkRoundLaw" (176 : Nat) yX3_grade) ∈ lw_all := List.mem_filter.mpr ⟨List.mem_of_getElem? (i := 886) (by decide +kernel), by decide +kernel⟩
theorem q_841 : (Cond.instanceMethod yX3_grade) ∈ lw_all := List.mem_filter.mpr ⟨List.mem_of_getElem? (i := 887) (by decide +kernel), by decide +kernel⟩
theorem q_842 : (Cond.selects "MilkRoundModel" yX3_grade yX3_grade) ∈ lw_all := List.mem_filter.mpr ⟨List.mem_of_getElem? (i := 888) (by decide +kernel), by decide +kernel⟩
theorem q_843 : (Cond.code yX3_grade prog_5_method_26_code (6 : Nat) (Option.some Jvm.ClassFile.FieldType.int)) ∈ lw_all := List.mem_filter.mpr ⟨List.mem_of_getElem? (i := 889) (by decide +kernel), by decide +kernel⟩
theorem q_844 : (Cond.methodLink "MilkRoundLaw" (179 : Nat) yX3_gradeOf) ∈ lw_all := List.mem_filter.mpr ⟨List.mem_of_getElem? (i := 890) (by decide +kernel), by decide +kernel⟩
theorem q_845 : (Cond.instanceMethod yX3_gradeOf) ∈ lw_all := List.mem_filter.mpr ⟨List.mem_of_getElem? (i := 891) (by decide +kernel), by decide +kernel⟩
theorem q_846 : (Cond.selects "MilkRoundModel" yX3_gradeOf yX3_gradeOf) ∈ lw_all := List.mem_filter.mpr ⟨List.mem_of_getElem? (i := 892) (by decide +kernel), by decide +kernel⟩
theorem q_847 : (Cond.code yX3_gradeOf prog_5_method_27_code (2 : Nat) (Option.some Jvm.ClassFile.FieldType.char)) ∈ lw_all := List.mem_filter.mpr ⟨List.mem_of_getElem? (i := 893) (by decide +kernel), by decide +kernel⟩
theorem q_848 : (Cond.methodLink "MilkRoundLaw" (183 : Nat) yX3_batches) ∈ lw_all := List.mem_filter.mpr ⟨List.mem_of_getElem? (i := 894) (by decide +kernel), by decide +kernel⟩
theorem q_849 : (Cond.instanceMethod yX3_batches) ∈ lw_all := List.mem_filter.mpr ⟨List.mem_of_getElem? (i := 895) (by decide +kernel), by decide +kernel⟩
theorem q_850 : (Cond.selects "MilkRoundModel" yX3_batches yX3_batches) ∈ lw_all := List.mem_filter.mpr ⟨List.mem_of_getElem? (i := 896) (by decide +kernel), by decide +kernel⟩
theorem q_851 : (Cond.code yX3_batches prog_5_method_28_code (1 : Nat) (Option.some Jvm.ClassFile.FieldType.int)) ∈ lw_all := List.mem_filter.mpr ⟨List.mem_of_getElem? (i := 897) (by decide +kernel), by decide +kernel⟩
theorem q_852 : (Cond.methodLink "MilkRoundLaw" (186 : Nat) yX3_stateOf) ∈ lw_all := List.mem_filter.mpr ⟨List.mem_of_getElem? (i := 898) (by decide +kernel), by decide +kernel⟩
theorem q_853 : (Cond.instanceMethod yX3_stateOf) ∈ lw_all := List.mem_filter.mpr ⟨List.mem_of_getElem? (i := 899) (by decide +kernel), by decide +kernel⟩
theorem q_854 : (Cond.selects "MilkRoundModel" yX3_stateOf yX3_stateOf) ∈ lw_all := List.mem_filter.mpr ⟨List.mem_of_getElem? (i := 900) (by decide +kernel), by decide +kernel⟩
theorem q_855 : (Cond.code yX3_stateOf prog_5_method_31_code (2 : Nat) (Option.some Jvm.ClassFile.FieldType.char)) ∈ lw_all := List.mem_filter.mpr ⟨List.mem_of_getElem? (i := 901) (by decide +kernel), by decide +kernel⟩
theorem q_856 : (Cond.methodLink "MilkRoundModel" (113 : Nat) yX3_isBatch) ∈ lw_all := List.mem_filter.mpr ⟨List.mem_of_getElem? (i := 902) (by decide +kernel), by decide +kernel⟩
theorem q_858 : (Cond.instanceMethod yX3_isBatch) ∈ lw_all := List.mem_filter.mpr ⟨List.mem_of_getElem? (i := 904) (by decide +kernel), by decide +kernel⟩
theorem q_859 : (Cond.code yX3_isBatch prog_5_method_30_code (2 : Nat) (Option.some Jvm.ClassFile.FieldType.boolean)) ∈ lw_all := List.mem_filter.mpr ⟨List.mem_of_getElem? (i := 905) (by decide +kernel), by decide +kernel⟩
theorem q_860 : (Cond.methodLink "MilkRoundModel" (116 : Nat) yX3_has) ∈ lw_all := List.mem_filter.mpr ⟨List.mem_of_getElem? (i := 906) (by decide +kernel), by decide +kernel⟩
theorem q_862 : (Cond.instanceMethod yX3_has) ∈ lw_all := List.mem_filter.mpr ⟨List.mem_of_getElem? (i := 908) (by decide +kernel), by decide +kernel⟩
theorem q_863 : (Cond.code yX3_has prog_5_method_29_code (5 : Nat) (Option.some Jvm.ClassFile.FieldType.boolean)) ∈ lw_all := List.mem_filter.mpr ⟨List.mem_of_getElem? (i := 909) (by decide +kernel), by decide +kernel⟩
theorem q_864 : (Cond.methodLink "MilkRoundLaw" (189 : Nat) yX3_share) ∈ lw_all := List.mem_filter.mpr ⟨List.mem_of_getElem? (i := 910) (by decide +kernel), by decide +kernel⟩
theorem q_865 : (Cond.instanceMethod yX3_share) ∈ lw_all := List.mem_filter.mpr ⟨List.mem_of_getElem? (i := 911) (by decide +kernel), by decide +kernel⟩
theorem q_866 : (Cond.selects "MilkRoundModel" yX3_share yX3_share) ∈ lw_all := List.mem_filter.mpr ⟨List.mem_of_getElem? (i := 912) (by decide +kernel), by decide +kernel⟩
theorem q_867 : (Cond.code yX3_share prog_5_method_32_code (5 : Nat) (Option.some Jvm.ClassFile.FieldType.int)) ∈ lw_all := List.mem_filter.mpr ⟨List.mem_of_getElem? (i := 913) (by decide +kernel), by decide +kernel⟩
theorem q_868 : (Cond.methodLink "MilkRoundLaw" (192 : Nat) yX3_worth) ∈ lw_all := List.mem_filter.mpr ⟨List.mem_of_getElem? (i := 914) (by decide +kernel), by decide +kernel⟩
theorem q_869 : (Cond.instanceMethod yX3_worth) ∈ lw_all := List.mem_filter.mpr ⟨List.mem_of_getElem? (i := 915) (by decide +kernel), by decide +kernel⟩
theorem q_870 : (Cond.selects "MilkRoundModel" yX3_worth yX3_worth) ∈ lw_all := List.mem_filter.mpr ⟨List.mem_of_getElem? (i := 916) (by decide +kernel), by decide +kernel⟩
theorem q_871 : (Cond.code yX3_worth prog_5_method_38_code (4 : Nat) (Option.some Jvm.ClassFile.FieldType.int)) ∈ lw_all := List.mem_filter.mpr ⟨List.mem_of_getElem? (i := 917) (by decide +kernel), by decide +kernel⟩
theorem q_872 : (Cond.methodLink "MilkRoundModel" (126 : Nat) yX3_isGraded) ∈ lw_all := List.mem_filter.mpr ⟨List.mem_of_getElem? (i := 918) (by decide +kernel), by decide +kernel⟩
theorem q_874 : (Cond.instanceMethod yX3_isGraded) ∈ lw_all := List.mem_filter.mpr ⟨List.mem_of_getElem? (i := 920) (by decide +kernel), by decide +kernel⟩
theorem q_875 : (Cond.code yX3_isGraded prog_5_method_37_code (2 : Nat) (Option.some Jvm.ClassFile.FieldType.boolean)) ∈ lw_all := List.mem_filter.mpr ⟨List.mem_of_getElem? (i := 921) (by decide +kernel), by decide +kernel⟩
theorem q_876 : (Cond.methodLink "MilkRoundModel" (129 : Nat) yX3_payOf) ∈ lw_all := List.mem_filter.mpr ⟨List.mem_of_getElem? (i := 922) (by decide +kernel), by decide +kernel⟩
theorem q_878 : (Cond.instanceMethod yX3_payOf) ∈ lw_all := List.mem_filter.mpr ⟨List.mem_of_getElem? (i := 924) (by decide +kernel), by decide +kernel⟩
theorem q_879 : (Cond.code yX3_payOf prog_5_method_34_code (2 : Nat) (Option.some Jvm.ClassFile.FieldType.int)) ∈ lw_all := List.mem_filter.mpr ⟨List.mem_of_getElem? (i := 925) (by decide +kernel), by decide +kernel⟩
theorem q_880 : (Cond.methodLink "MilkRoundModel" (120 : Nat) yX3_worthOf) ∈ lw_all := List.mem_filter.mpr ⟨List.mem_of_getElem? (i := 926) (by decide +kernel), by decide +kernel⟩
theorem q_882 : (Cond.instanceMethod yX3_worthOf) ∈ lw_all := List.mem_filter.mpr ⟨List.mem_of_getElem? (i := 928) (by decide +kernel), by decide +kernel⟩
theorem q_883 : (Cond.code yX3_worthOf prog_5_method_33_code (3 : Nat) (Option.some Jvm.ClassFile.FieldType.int)) ∈ lw_all := List.mem_filter.mpr ⟨List.mem_of_getElem? (i := 929) (by decide +kernel), by decide +kernel⟩
theorem q_884 : (Cond.methodLink "MilkRoundLaw" (195 : Nat) yX3_loss) ∈ lw_all := List.mem_filter.mpr ⟨List.mem_of_getElem? (i := 930) (by decide +kernel), by decide +kernel⟩
theorem q_885 : (Cond.instanceMethod yX3_loss) ∈ lw_all := List.mem_filter.mpr ⟨List.mem_of_getElem? (i := 931) (by decide +kernel), by decide +kernel⟩
theorem q_886 : (Cond.selects "MilkRoundModel" yX3_loss yX3_loss) ∈ lw_all := List.mem_filter.mpr ⟨List.mem_of_getElem? (i := 932) (by decide +kernel), by decide +kernel⟩
theorem q_887 : (Cond.code yX3_loss prog_5_method_39_code (2 : Nat) (Option.some Jvm.ClassFile.FieldType.int)) ∈ lw_all := List.mem_filter.mpr ⟨List.mem_of_getElem? (i := 933) (by decide +kernel), by decide +kernel⟩
theorem q_888 : (Cond.methodLink "MilkRoundModel" (123 : Nat) yX3_lossOf) ∈ lw_all := List.mem_filter.mpr ⟨List.mem_of_getElem? (i := 934) (by decide +kernel), by decide +kernel⟩
theorem q_890 : (Cond.instanceMethod yX3_lossOf) ∈ lw_all := List.mem_filter.mpr ⟨List.mem_of_getElem? (i := 936) (by decide +kernel), by decide +kernel⟩
theorem q_891 : (Cond.code yX3_lossOf prog_5_method_35_code (4 : Nat) (Option.some Jvm.ClassFile.FieldType.int)) ∈ lw_all := List.mem_filter.mpr ⟨List.mem_of_getElem? (i := 937) (by decide +kernel), by decide +kernel⟩
theorem q_892 : (Cond.methodLink "MilkRoundLaw" (198 : Nat) yX3_pay) ∈ lw_all := List.mem_filter.mpr ⟨List.mem_of_getElem? (i := 938) (by decide +kernel), by decide +kernel⟩
theorem q_893 : (Cond.instanceMethod yX3_pay) ∈ lw_all := List.mem_filter.mpr ⟨List.mem_of_getElem? (i := 939) (by decide +kernel), by decide +kernel⟩
theorem q_894 : (Cond.selects "MilkRoundModel" yX3_pay yX3_pay) ∈ lw_all := List.mem_filter.mpr ⟨List.mem_of_getElem? (i := 940) (by decide +kernel), by decide +kernel⟩
theorem q_895 : (Cond.code yX3_pay prog_5_method_41_code (5 : Nat) (Option.some Jvm.ClassFile.FieldType.long)) ∈ lw_all := List.mem_filter.mpr ⟨List.mem_of_getElem? (i := 941) (by decide +kernel), by decide +kernel⟩
theorem q_896 : (Cond.constantLong "MilkRoundModel" (132 : Nat) (-1 : Int64)) ∈ lw_all := List.mem_filter.mpr ⟨List.mem_of_getElem? (i := 942) (by decide +kernel), by decide +kernel⟩
theorem q_897 : (Cond.methodLink "MilkRoundModel" (134 : Nat) yX3_counts) ∈ lw_all := List.mem_filter.mpr ⟨List.mem_of_getElem? (i := 943) (by decide +kernel), by decide +kernel⟩
theorem q_899 : (Cond.instanceMethod yX3_counts) ∈ lw_all := List.mem_filter.mpr ⟨List.mem_of_getElem? (i := 945) (by decide +kernel), by decide +kernel⟩
theorem q_900 : (Cond.code yX3_counts prog_5_method_40_code (3 : Nat) (Option.some Jvm.ClassFile.FieldType.boolean)) ∈ lw_all := List.mem_filter.mpr ⟨List.mem_of_getElem? (i := 946) (by decide +kernel), by decide +kernel⟩
theorem q_901 : (Cond.methodLink "MilkRoundLaw" (201 : Nat) yX3_blame) ∈ lw_all := List.mem_filter.mpr ⟨List.mem_of_getElem? (i := 947) (by decide +kernel), by decide +kernel⟩
theorem q_902 : (Cond.instanceMethod yX3_blame) ∈ lw_all := List.mem_filter.mpr ⟨List.mem_of_getElem? (i := 948) (by decide +kernel), by decide +kernel⟩
theorem q_903 : (Cond.selects "MilkRoundModel" yX3_blame yX3_blame) ∈ lw_all := List.mem_filter.mpr ⟨List.mem_of_getElem? (i := 949) (by decide +kernel), by decide +kernel⟩
theorem q_904 : (Cond.code yX3_blame prog_5_method_42_code (5 : Nat) (Option.some Jvm.ClassFile.FieldType.long)) ∈ lw_all := List.mem_filter.mpr ⟨List.mem_of_getElem? (i := 950) (by decide +kernel), by decide +kernel⟩
theorem q_905 : (Cond.methodLink "MilkRoundModel" (138 : Nat) yX3_blameOf) ∈ lw_all := List.mem_filter.mpr ⟨List.mem_of_getElem? (i := 951) (by decide +kernel), by decide +kernel⟩
theorem q_907 : (Cond.instanceMethod yX3_blameOf) ∈ lw_all := List.mem_filter.mpr ⟨List.mem_of_getElem? (i := 953) (by decide +kernel), by decide +kernel⟩
theorem q_908 : (Cond.code yX3_blameOf prog_5_method_36_code (9 : Nat) (Option.some Jvm.ClassFile.FieldType.int)) ∈ lw_all := List.mem_filter.mpr ⟨List.mem_of_getElem? (i := 954) (by decide +kernel), by decide +kernel⟩
theorem q_909 : (Cond.methodLink "MilkRoundLaw" (204 : Nat) yX3_balanceBySamples) ∈ lw_all := List.mem_filter.mpr ⟨List.mem_of_getElem? (i := 955) (by decide +kernel), by decide +kernel⟩
theorem q_910 : (Cond.instanceMethod yX3_balanceBySamples) ∈ lw_all := List.mem_filter.mpr ⟨List.mem_of_getElem? (i := 956) (by decide +kernel), by decide +kernel⟩
theorem q_911 : (Cond.selects "MilkRoundModel" yX3_balanceBySamples yX3_balanceBySamples) ∈ lw_all := List.mem_filter.mpr ⟨List.mem_of_getElem? (i := 957) (by decide +kernel), by decide +kernel⟩
theorem q_912 : (Cond.code yX3_balanceBySamples prog_5_method_43_code (2 : Nat) (Option.some Jvm.ClassFile.FieldType.long)) ∈ lw_all := List.mem_filter.mpr ⟨List.mem_of_getElem? (i := 958) (by decide +kernel), by decide +kernel⟩
theorem q_913 : (Cond.methodLink "MilkRoundModel" (141 : Nat) yX3_pay) ∈ lw_all := List.mem_filter.mpr ⟨List.mem_of_getElem? (i := 959) (by decide +kernel), by decide +kernel⟩
theorem q_914 : (Cond.methodLink "MilkRoundModel" (145 : Nat) yX3_blame) ∈ lw_all := List.mem_filter.mpr ⟨List.mem_of_getElem? (i := 960) (by decide +kernel), by decide +kernel⟩
theorem q_915 : (Cond.methodLink "MilkRoundLaw" (207 : Nat) yX3_wayOf) ∈ lw_all := List.mem_filter.mpr ⟨List.mem_of_getElem? (i := 961) (by decide +kernel), by decide +kernel⟩
theorem q_916 : (Cond.instanceMethod yX3_wayOf) ∈ lw_all := List.mem_filter.mpr ⟨List.mem_of_getElem? (i := 962) (by decide +kernel), by decide +kernel⟩
theorem q_917 : (Cond.selects "MilkRoundModel" yX3_wayOf yX3_wayOf) ∈ lw_all := List.mem_filter.mpr ⟨List.mem_of_getElem? (i := 963) (by decide +kernel), by decide +kernel⟩
theorem q_918 : (Cond.code yX3_wayOf prog_5_method_44_code (2 : Nat) (Option.some Jvm.ClassFile.FieldType.char)) ∈ lw_all := List.mem_filter.mpr ⟨List.mem_of_getElem? (i := 964) (by decide +kernel), by decide +kernel⟩
theorem q_919 : (Cond.methodLink "MilkRoundLaw" (211 : Nat) yX3_spoiltShare) ∈ lw_all := List.mem_filter.mpr ⟨List.mem_of_getElem? (i := 965) (by decide +kernel), by decide +kernel⟩
theorem q_920 : (Cond.instanceMethod yX3_spoiltShare) ∈ lw_all := List.mem_filter.mpr ⟨List.mem_of_getElem? (i := 966) (by decide +kernel), by decide +kernel⟩
theorem q_921 : (Cond.selects "MilkRoundModel" yX3_spoiltShare yX3_spoiltShare) ∈ lw_all := List.mem_filter.mpr ⟨List.mem_of_getElem? (i := 967) (by decide +kernel), by decide +kernel⟩
theorem q_922 : (Cond.code yX3_spoiltShare prog_5_method_45_code (4 : Nat) (Option.some Jvm.ClassFile.FieldType.float)) ∈ lw_all := List.mem_filter.mpr ⟨List.mem_of_getElem? (i := 968) (by decide +kernel), by decide +kernel⟩
theorem q_923 : (Cond.methodLink "MilkRoundLaw" (214 : Nat) yX3_meanPay) ∈ lw_all := List.mem_filter.mpr ⟨List.mem_of_getElem? (i := 969) (by decide +kernel), by decide +kernel⟩
theorem q_924 : (Cond.instanceMethod yX3_meanPay) ∈ lw_all := List.mem_filter.mpr ⟨List.mem_of_getElem? (i := 970) (by decide +kernel), by decide +kernel⟩
theorem q_925 : (Cond.selects "MilkRoundModel" yX3_meanPay yX3_meanPay) ∈ lw_all := List.mem_filter.mpr ⟨List.mem_of_getElem? (i := 971) (by decide +kernel), by decide +kernel⟩
theorem q_926 : (Cond.code yX3_meanPay prog_5_method_46_code (5 : Nat) (Option.some Jvm.ClassFile.FieldType.double)) ∈ lw_all := List.mem_filter.mpr ⟨List.mem_of_getElem? (i := 972) (by decide +kernel), by decide +kernel⟩
theorem q_927 : (Cond.arrayClass Jvm.ClassFile.FieldType.long) ∈ lw_all := List.mem_filter.mpr ⟨List.mem_of_getElem? (i := 973) (by decide +kernel), by decide +kernel⟩
theorem q_928 : (Cond.arrayClass Jvm.ClassFile.FieldType.double) ∈ lw_all := List.mem_filter.mpr ⟨List.mem_of_getElem? (i := 974) (by decide +kernel), by decide +kernel⟩
theorem inX0 : ∀ w ∈ wsX00, w ∈ lw_all := fun w h => List.mem_filter.mpr ⟨(show ∀ w ∈ wsX00, w ∈ lw_tbl by decide +kernel) w h, (show ∀ w ∈ wsX00, goodWord w = true by decide +kernel) w h⟩
theorem inX1 : ∀ w ∈ wsX10, w ∈ lw_all := fun w h => List.mem_filter.mpr ⟨(show ∀ w ∈ wsX10, w ∈ lw_tbl by decide +kernel) w h, (show ∀ w ∈ wsX10, goodWord w = true by decide +kernel) w h⟩
theorem inX2 : ∀ w ∈ wsX20, w ∈ lw_all := fun w h => List.mem_filter.mpr ⟨(show ∀ w ∈ wsX20, w ∈ lw_tbl by decide +kernel) w h, (show ∀ w ∈ wsX20, goodWord w = true by decide +kernel) w h⟩
theorem inX3 : ∀ w ∈ wsX30, w ∈ lw_all := fun w h => List.mem_filter.mpr ⟨(show ∀ w ∈ wsX30, w ∈ lw_tbl by decide +kernel) w h, (show ∀ w ∈ wsX30, goodWord w = true by decide +kernel) w h⟩
