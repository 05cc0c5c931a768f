theorem dX3_init_0 : decode cX3_init 0 = .ok (.aload_n 0, 1) := by decide +kernel
theorem dX3_init_1 : decode cX3_init 1 = .ok (.invokespecial 1, 3) := by decide +kernel
theorem dX3_init_4 : decode cX3_init 4 = .ok (.aload_n 0, 1) := by decide +kernel
theorem dX3_init_5 : decode cX3_init 5 = .ok (.bipush 6, 2) := by decide +kernel
theorem dX3_init_7 : decode cX3_init 7 = .ok (.newarray .int, 2) := by decide +kernel
theorem dX3_init_9 : decode cX3_init 9 = .ok (.putfield 7, 3) := by decide +kernel
theorem dX3_init_12 : decode cX3_init 12 = .ok (.aload_n 0, 1) := by decide +kernel
theorem dX3_init_13 : decode cX3_init 13 = .ok (.bipush 6, 2) := by decide +kernel
theorem dX3_init_15 : decode cX3_init 15 = .ok (.newarray .int, 2) := by decide +kernel
theorem dX3_init_17 : decode cX3_init 17 = .ok (.putfield 13, 3) := by decide +kernel
theorem dX3_init_20 : decode cX3_init 20 = .ok (.aload_n 0, 1) := by decide +kernel
theorem dX3_init_21 : decode cX3_init 21 = .ok (.bipush 30, 2) := by decide +kernel
theorem dX3_init_23 : decode cX3_init 23 = .ok (.newarray .int, 2) := by decide +kernel
theorem dX3_init_25 : decode cX3_init 25 = .ok (.putfield 16, 3) := by decide +kernel
theorem dX3_init_28 : decode cX3_init 28 = .ok (.aload_n 0, 1) := by decide +kernel
theorem dX3_init_29 : decode cX3_init 29 = .ok (.bipush 6, 2) := by decide +kernel
theorem dX3_init_31 : decode cX3_init 31 = .ok (.newarray .int, 2) := by decide +kernel
theorem dX3_init_33 : decode cX3_init 33 = .ok (.putfield 19, 3) := by decide +kernel
theorem dX3_init_36 : decode cX3_init 36 = .ok (.aload_n 0, 1) := by decide +kernel
theorem dX3_init_37 : decode cX3_init 37 = .ok (.iconst 4, 1) := by decide +kernel
theorem dX3_init_38 : decode cX3_init 38 = .ok (.newarray .int, 2) := by decide +kernel
theorem dX3_init_40 : decode cX3_init 40 = .ok (.putfield 22, 3) := by decide +kernel
theorem dX3_init_43 : decode cX3_init 43 = .ok (.aload_n 0, 1) := by decide +kernel
theorem dX3_init_44 : decode cX3_init 44 = .ok (.iconst 4, 1) := by decide +kernel
theorem dX3_init_45 : decode cX3_init 45 = .ok (.newarray .int, 2) := by decide +kernel
theorem dX3_init_47 : decode cX3_init 47 = .ok (.putfield 25, 3) := by decide +kernel
theorem dX3_init_50 : decode cX3_init 50 = .ok (.aload_n 0, 1) := by decide +kernel
theorem dX3_init_51 : decode cX3_init 51 = .ok (.iconst 4, 1) := by decide +kernel
theorem dX3_init_52 : decode cX3_init 52 = .ok (.newarray .int, 2) := by decide +kernel
theorem dX3_init_54 : decode cX3_init 54 = .ok (.putfield 28, 3) := by decide +kernel
theorem dX3_init_57 : decode cX3_init 57 = .ok (.aload_n 0, 1) := by decide +kernel
theorem dX3_init_58 : decode cX3_init 58 = .ok (.bipush 6, 2) := by decide +kernel
theorem dX3_init_60 : decode cX3_init 60 = .ok (.newarray .boolean, 2) := by decide +kernel
theorem dX3_init_62 : decode cX3_init 62 = .ok (.putfield 31, 3) := by decide +kernel
theorem dX3_init_65 : decode cX3_init 65 = .ok (.aload_n 0, 1) := by decide +kernel
theorem dX3_init_66 : decode cX3_init 66 = .ok (.bipush 100, 2) := by decide +kernel
theorem dX3_init_68 : decode cX3_init 68 = .ok (.newarray .int, 2) := by decide +kernel
theorem dX3_init_70 : decode cX3_init 70 = .ok (.putfield 35, 3) := by decide +kernel
theorem dX3_init_73 : decode cX3_init 73 = .ok (.aload_n 0, 1) := by decide +kernel
theorem dX3_init_74 : decode cX3_init 74 = .ok (.bipush 100, 2) := by decide +kernel
theorem dX3_init_76 : decode cX3_init 76 = .ok (.newarray .int, 2) := by decide +kernel
theorem dX3_init_78 : decode cX3_init 78 = .ok (.putfield 38, 3) := by decide +kernel
theorem dX3_init_81 : decode cX3_init 81 = .ok (.aload_n 0, 1) := by decide +kernel
theorem dX3_init_82 : decode cX3_init 82 = .ok (.bipush 100, 2) := by decide +kernel
theorem dX3_init_84 : decode cX3_init 84 = .ok (.newarray .char, 2) := by decide +kernel
theorem dX3_init_86 : decode cX3_init 86 = .ok (.putfield 41, 3) := by decide +kernel
theorem dX3_init_89 : decode cX3_init 89 = .ok (.aload_n 0, 1) := by decide +kernel
theorem dX3_init_90 : decode cX3_init 90 = .ok (.bipush 100, 2) := by decide +kernel
theorem dX3_init_92 : decode cX3_init 92 = .ok (.newarray .int, 2) := by decide +kernel
theorem dX3_init_94 : decode cX3_init 94 = .ok (.putfield 45, 3) := by decide +kernel
theorem dX3_init_97 : decode cX3_init 97 = .ok (.return_, 1) := by decide +kernel
theorem dX3_thrown_0 : decode cX3_thrown 0 = .ok (.aload_n 0, 1) := by decide +kernel
theorem dX3_thrown_1 : decode cX3_thrown 1 = .ok (.getfield 48, 3) := by decide +kernel
theorem dX3_thrown_4 : decode cX3_thrown 4 = .ok (.ireturn, 1) := by decide +kernel
theorem dX3_in_0 : decode cX3_in 0 = .ok (.lload_n 0, 1) := by decide +kernel
theorem dX3_in_1 : decode cX3_in 1 = .ok (.lload_n 2, 1) := by decide +kernel
theorem dX3_in_2 : decode cX3_in 2 = .ok (.lcmp, 1) := by decide +kernel
theorem dX3_in_3 : decode cX3_in 3 = .ok (.ifCond .lt 14, 3) := by decide +kernel
theorem dX3_in_6 : decode cX3_in 6 = .ok (.lload_n 0, 1) := by decide +kernel
theorem dX3_in_7 : decode cX3_in 7 = .ok (.lload 4, 2) := by decide +kernel
theorem dX3_in_9 : decode cX3_in 9 = .ok (.lcmp, 1) := by decide +kernel
theorem dX3_in_10 : decode cX3_in 10 = .ok (.ifCond .gt 7, 3) := by decide +kernel
theorem dX3_in_13 : decode cX3_in 13 = .ok (.iconst 1, 1) := by decide +kernel
theorem dX3_in_14 : decode cX3_in 14 = .ok (.goto 4, 3) := by decide +kernel
theorem dX3_in_17 : decode cX3_in 17 = .ok (.iconst 0, 1) := by decide +kernel
theorem dX3_in_18 : decode cX3_in 18 = .ok (.ireturn, 1) := by decide +kernel
theorem dX3_addFarm_0 : decode cX3_addFarm 0 = .ok (.aload_n 0, 1) := by decide +kernel
theorem dX3_addFarm_1 : decode cX3_addFarm 1 = .ok (.iload_n 1, 1) := by decide +kernel
theorem dX3_addFarm_2 : decode cX3_addFarm 2 = .ok (.i2l, 1) := by decide +kernel
theorem dX3_addFarm_3 : decode cX3_addFarm 3 = .ok (.ldc2_w 52, 3) := by decide +kernel
theorem dX3_addFarm_6 : decode cX3_addFarm 6 = .ok (.ldc2_w 54, 3) := by decide +kernel
theorem dX3_addFarm_9 : decode cX3_addFarm 9 = .ok (.invokestatic 56, 3) := by decide +kernel
theorem dX3_addFarm_12 : decode cX3_addFarm 12 = .ok (.ifCond .ne 7, 3) := by decide +kernel
theorem dX3_addFarm_15 : decode cX3_addFarm 15 = .ok (.iconst 1, 1) := by decide +kernel
theorem dX3_addFarm_16 : decode cX3_addFarm 16 = .ok (.goto 17, 3) := by decide +kernel
theorem dX3_addFarm_19 : decode cX3_addFarm 19 = .ok (.aload_n 0, 1) := by decide +kernel
theorem dX3_addFarm_20 : decode cX3_addFarm 20 = .ok (.getfield 60, 3) := by decide +kernel
theorem dX3_addFarm_23 : decode cX3_addFarm 23 = .ok (.bipush 6, 2) := by decide +kernel
theorem dX3_addFarm_25 : decode cX3_addFarm 25 = .ok (.if_icmp .ne 7, 3) := by decide +kernel
theorem dX3_addFarm_28 : decode cX3_addFarm 28 = .ok (.iconst 2, 1) := by decide +kernel
theorem dX3_addFarm_29 : decode cX3_addFarm 29 = .ok (.goto 4, 3) := by decide +kernel
theorem dX3_addFarm_32 : decode cX3_addFarm 32 = .ok (.iconst 0, 1) := by decide +kernel
theorem dX3_addFarm_33 : decode cX3_addFarm 33 = .ok (.putfield 48, 3) := by decide +kernel
theorem dX3_addFarm_36 : decode cX3_addFarm 36 = .ok (.aload_n 0, 1) := by decide +kernel
theorem dX3_addFarm_37 : decode cX3_addFarm 37 = .ok (.getfield 48, 3) := by decide +kernel
theorem dX3_addFarm_40 : decode cX3_addFarm 40 = .ok (.ifCond .le 5, 3) := by decide +kernel
theorem dX3_addFarm_43 : decode cX3_addFarm 43 = .ok (.iconst (-1), 1) := by decide +kernel
theorem dX3_addFarm_44 : decode cX3_addFarm 44 = .ok (.ireturn, 1) := by decide +kernel
theorem dX3_addFarm_45 : decode cX3_addFarm 45 = .ok (.aload_n 0, 1) := by decide +kernel
theorem dX3_addFarm_46 : decode cX3_addFarm 46 = .ok (.getfield 7, 3) := by decide +kernel
theorem dX3_addFarm_49 : decode cX3_addFarm 49 = .ok (.aload_n 0, 1) := by decide +kernel
theorem dX3_addFarm_50 : decode cX3_addFarm 50 = .ok (.getfield 60, 3) := by decide +kernel
theorem dX3_addFarm_53 : decode cX3_addFarm 53 = .ok (.iload_n 1, 1) := by decide +kernel
theorem dX3_addFarm_54 : decode cX3_addFarm 54 = .ok (.iastore, 1) := by decide +kernel
theorem dX3_addFarm_55 : decode cX3_addFarm 55 = .ok (.aload_n 0, 1) := by decide +kernel
theorem dX3_addFarm_56 : decode cX3_addFarm 56 = .ok (.dup, 1) := by decide +kernel
theorem dX3_addFarm_57 : decode cX3_addFarm 57 = .ok (.getfield 60, 3) := by decide +kernel
theorem dX3_addFarm_60 : decode cX3_addFarm 60 = .ok (.iconst 1, 1) := by decide +kernel
theorem dX3_addFarm_61 : decode cX3_addFarm 61 = .ok (.iadd, 1) := by decide +kernel
theorem dX3_addFarm_62 : decode cX3_addFarm 62 = .ok (.putfield 60, 3) := by decide +kernel
theorem dX3_addFarm_65 : decode cX3_addFarm 65 = .ok (.aload_n 0, 1) := by decide +kernel
theorem dX3_addFarm_66 : decode cX3_addFarm 66 = .ok (.getfield 60, 3) := by decide +kernel
theorem dX3_addFarm_69 : decode cX3_addFarm 69 = .ok (.iconst 1, 1) := by decide +kernel
theorem dX3_addFarm_70 : decode cX3_addFarm 70 = .ok (.isub, 1) := by decide +kernel
theorem dX3_addFarm_71 : decode cX3_addFarm 71 = .ok (.ireturn, 1) := by decide +kernel
theorem dX3_isFarm_0 : decode cX3_isFarm 0 = .ok (.iload_n 1, 1) := by decide +kernel
theorem dX3_isFarm_1 : decode cX3_isFarm 1 = .ok (.i2l, 1) := by decide +kernel
theorem dX3_isFarm_2 : decode cX3_isFarm 2 = .ok (.lconst 0, 1) := by decide +kernel
theorem dX3_isFarm_3 : decode cX3_isFarm 3 = .ok (.aload_n 0, 1) := by decide +kernel
theorem dX3_isFarm_4 : decode cX3_isFarm 4 = .ok (.getfield 60, 3) := by decide +kernel
theorem dX3_isFarm_7 : decode cX3_isFarm 7 = .ok (.iconst 1, 1) := by decide +kernel
theorem dX3_isFarm_8 : decode cX3_isFarm 8 = .ok (.isub, 1) := by decide +kernel
theorem dX3_isFarm_9 : decode cX3_isFarm 9 = .ok (.i2l, 1) := by decide +kernel
theorem dX3_isFarm_10 : decode cX3_isFarm 10 = .ok (.invokestatic 56, 3) := by decide +kernel
theorem dX3_isFarm_13 : decode cX3_isFarm 13 = .ok (.ireturn, 1) := by decide +kernel
theorem dX3_addCow_0 : decode cX3_addCow 0 = .ok (.aload_n 0, 1) := by decide +kernel
theorem dX3_addCow_1 : decode cX3_addCow 1 = .ok (.aload_n 0, 1) := by decide +kernel
theorem dX3_addCow_2 : decode cX3_addCow 2 = .ok (.iload_n 1, 1) := by decide +kernel
theorem dX3_addCow_3 : decode cX3_addCow 3 = .ok (.invokevirtual 63, 3) := by decide +kernel
theorem dX3_addCow_6 : decode cX3_addCow 6 = .ok (.ifCond .ne 7, 3) := by decide +kernel
theorem dX3_addCow_9 : decode cX3_addCow 9 = .ok (.iconst 1, 1) := by decide +kernel
theorem dX3_addCow_10 : decode cX3_addCow 10 = .ok (.goto 36, 3) := by decide +kernel
theorem dX3_addCow_13 : decode cX3_addCow 13 = .ok (.iload_n 2, 1) := by decide +kernel
theorem dX3_addCow_14 : decode cX3_addCow 14 = .ok (.i2l, 1) := by decide +kernel
theorem dX3_addCow_15 : decode cX3_addCow 15 = .ok (.ldc2_w 67, 3) := by decide +kernel
theorem dX3_addCow_18 : decode cX3_addCow 18 = .ok (.ldc2_w 69, 3) := by decide +kernel
theorem dX3_addCow_21 : decode cX3_addCow 21 = .ok (.invokestatic 56, 3) := by decide +kernel
theorem dX3_addCow_24 : decode cX3_addCow 24 = .ok (.ifCond .ne 7, 3) := by decide +kernel
theorem dX3_addCow_27 : decode cX3_addCow 27 = .ok (.iconst 2, 1) := by decide +kernel
theorem dX3_addCow_28 : decode cX3_addCow 28 = .ok (.goto 18, 3) := by decide +kernel
theorem dX3_addCow_31 : decode cX3_addCow 31 = .ok (.aload_n 0, 1) := by decide +kernel
theorem dX3_addCow_32 : decode cX3_addCow 32 = .ok (.getfield 19, 3) := by decide +kernel
theorem dX3_addCow_35 : decode cX3_addCow 35 = .ok (.iload_n 1, 1) := by decide +kernel
theorem dX3_addCow_36 : decode cX3_addCow 36 = .ok (.iaload, 1) := by decide +kernel
theorem dX3_addCow_37 : decode cX3_addCow 37 = .ok (.iconst 5, 1) := by decide +kernel
theorem dX3_addCow_38 : decode cX3_addCow 38 = .ok (.if_icmp .ne 7, 3) := by decide +kernel
theorem dX3_addCow_41 : decode cX3_addCow 41 = .ok (.iconst 3, 1) := by decide +kernel
theorem dX3_addCow_42 : decode cX3_addCow 42 = .ok (.goto 4, 3) := by decide +kernel
theorem dX3_addCow_45 : decode cX3_addCow 45 = .ok (.iconst 0, 1) := by decide +kernel
theorem dX3_addCow_46 : decode cX3_addCow 46 = .ok (.putfield 48, 3) := by decide +kernel
theorem dX3_addCow_49 : decode cX3_addCow 49 = .ok (.aload_n 0, 1) := by decide +kernel
theorem dX3_addCow_50 : decode cX3_addCow 50 = .ok (.getfield 48, 3) := by decide +kernel
theorem dX3_addCow_53 : decode cX3_addCow 53 = .ok (.ifCond .le 5, 3) := by decide +kernel
theorem dX3_addCow_56 : decode cX3_addCow 56 = .ok (.iconst (-1), 1) := by decide +kernel
theorem dX3_addCow_57 : decode cX3_addCow 57 = .ok (.ireturn, 1) := by decide +kernel
theorem dX3_addCow_58 : decode cX3_addCow 58 = .ok (.aload_n 0, 1) := by decide +kernel
theorem dX3_addCow_59 : decode cX3_addCow 59 = .ok (.getfield 16, 3) := by decide +kernel
theorem dX3_addCow_62 : decode cX3_addCow 62 = .ok (.iconst 5, 1) := by decide +kernel
theorem dX3_addCow_63 : decode cX3_addCow 63 = .ok (.iload_n 1, 1) := by decide +kernel
theorem dX3_addCow_64 : decode cX3_addCow 64 = .ok (.imul, 1) := by decide +kernel
theorem dX3_addCow_65 : decode cX3_addCow 65 = .ok (.aload_n 0, 1) := by decide +kernel
theorem dX3_addCow_66 : decode cX3_addCow 66 = .ok (.getfield 19, 3) := by decide +kernel
theorem dX3_addCow_69 : decode cX3_addCow 69 = .ok (.iload_n 1, 1) := by decide +kernel
theorem dX3_addCow_70 : decode cX3_addCow 70 = .ok (.iaload, 1) := by decide +kernel
theorem dX3_addCow_71 : decode cX3_addCow 71 = .ok (.iadd, 1) := by decide +kernel
theorem dX3_addCow_72 : decode cX3_addCow 72 = .ok (.iload_n 2, 1) := by decide +kernel
theorem dX3_addCow_73 : decode cX3_addCow 73 = .ok (.iastore, 1) := by decide +kernel
theorem dX3_addCow_74 : decode cX3_addCow 74 = .ok (.aload_n 0, 1) := by decide +kernel
theorem dX3_addCow_75 : decode cX3_addCow 75 = .ok (.getfield 19, 3) := by decide +kernel
theorem dX3_addCow_78 : decode cX3_addCow 78 = .ok (.iload_n 1, 1) := by decide +kernel
theorem dX3_addCow_79 : decode cX3_addCow 79 = .ok (.dup2, 1) := by decide +kernel
theorem dX3_addCow_80 : decode cX3_addCow 80 = .ok (.iaload, 1) := by decide +kernel
theorem dX3_addCow_81 : decode cX3_addCow 81 = .ok (.iconst 1, 1) := by decide +kernel
theorem dX3_addCow_82 : decode cX3_addCow 82 = .ok (.iadd, 1) := by decide +kernel
theorem dX3_addCow_83 : decode cX3_addCow 83 = .ok (.iastore, 1) := by decide +kernel
theorem dX3_addCow_84 : decode cX3_addCow 84 = .ok (.aload_n 0, 1) := by decide +kernel
theorem dX3_addCow_85 : decode cX3_addCow 85 = .ok (.getfield 19, 3) := by decide +kernel
theorem dX3_addCow_88 : decode cX3_addCow 88 = .ok (.iload_n 1, 1) := by decide +kernel
theorem dX3_addCow_89 : decode cX3_addCow 89 = .ok (.iaload, 1) := by decide +kernel
theorem dX3_addCow_90 : decode cX3_addCow 90 = .ok (.ireturn, 1) := by decide +kernel
theorem dX3_gives_0 : decode cX3_gives 0 = .ok (.iconst 5, 1) := by decide +kernel
theorem dX3_gives_1 : decode cX3_gives 1 = .ok (.iload_n 1, 1) := by decide +kernel
theorem dX3_gives_2 : decode cX3_gives 2 = .ok (.bipush 10, 2) := by decide +kernel
theorem dX3_gives_4 : decode cX3_gives 4 = .ok (.irem, 1) := by decide +kernel
theorem dX3_gives_5 : decode cX3_gives 5 = .ok (.isub, 1) := by decide +kernel
theorem dX3_gives_6 : decode cX3_gives 6 = .ok (.istore_n 2, 1) := by decide +kernel
theorem dX3_gives_7 : decode cX3_gives 7 = .ok (.iload_n 0, 1) := by decide +kernel
theorem dX3_gives_8 : decode cX3_gives 8 = .ok (.iload_n 2, 1) := by decide +kernel
theorem dX3_gives_9 : decode cX3_gives 9 = .ok (.ifCond .ge 8, 3) := by decide +kernel
theorem dX3_gives_12 : decode cX3_gives 12 = .ok (.iload_n 2, 1) := by decide +kernel
theorem dX3_gives_13 : decode cX3_gives 13 = .ok (.ineg, 1) := by decide +kernel
theorem dX3_gives_14 : decode cX3_gives 14 = .ok (.goto 4, 3) := by decide +kernel
theorem dX3_gives_17 : decode cX3_gives 17 = .ok (.iload_n 2, 1) := by decide +kernel
theorem dX3_gives_18 : decode cX3_gives 18 = .ok (.isub, 1) := by decide +kernel
theorem dX3_gives_19 : decode cX3_gives 19 = .ok (.istore_n 3, 1) := by decide +kernel
theorem dX3_gives_20 : decode cX3_gives 20 = .ok (.iload_n 3, 1) := by decide +kernel
theorem dX3_gives_21 : decode cX3_gives 21 = .ok (.iconst 5, 1) := by decide +kernel
theorem dX3_gives_22 : decode cX3_gives 22 = .ok (.if_icmp .ge 7, 3) := by decide +kernel
theorem dX3_gives_25 : decode cX3_gives 25 = .ok (.iconst 5, 1) := by decide +kernel
theorem dX3_gives_26 : decode cX3_gives 26 = .ok (.goto 4, 3) := by decide +kernel
theorem dX3_gives_29 : decode cX3_gives 29 = .ok (.iload_n 3, 1) := by decide +kernel
theorem dX3_gives_30 : decode cX3_gives 30 = .ok (.ireturn, 1) := by decide +kernel
theorem dX3_milkOf_0 : decode cX3_milkOf 0 = .ok (.aload_n 0, 1) := by decide +kernel
theorem dX3_milkOf_1 : decode cX3_milkOf 1 = .ok (.aload_n 0, 1) := by decide +kernel
theorem dX3_milkOf_2 : decode cX3_milkOf 2 = .ok (.iload_n 1, 1) := by decide +kernel
theorem dX3_milkOf_3 : decode cX3_milkOf 3 = .ok (.invokevirtual 63, 3) := by decide +kernel
theorem dX3_milkOf_6 : decode cX3_milkOf 6 = .ok (.ifCond .ne 7, 3) := by decide +kernel
theorem dX3_milkOf_9 : decode cX3_milkOf 9 = .ok (.iconst 1, 1) := by decide +kernel
theorem dX3_milkOf_10 : decode cX3_milkOf 10 = .ok (.goto 20, 3) := by decide +kernel
theorem dX3_milkOf_13 : decode cX3_milkOf 13 = .ok (.iload_n 2, 1) := by decide +kernel
theorem dX3_milkOf_14 : decode cX3_milkOf 14 = .ok (.i2l, 1) := by decide +kernel
theorem dX3_milkOf_15 : decode cX3_milkOf 15 = .ok (.lconst 0, 1) := by decide +kernel
theorem dX3_milkOf_16 : decode cX3_milkOf 16 = .ok (.ldc2_w 71, 3) := by decide +kernel
theorem dX3_milkOf_19 : decode cX3_milkOf 19 = .ok (.invokestatic 56, 3) := by decide +kernel
theorem dX3_milkOf_22 : decode cX3_milkOf 22 = .ok (.ifCond .ne 7, 3) := by decide +kernel
theorem dX3_milkOf_25 : decode cX3_milkOf 25 = .ok (.iconst 2, 1) := by decide +kernel
theorem dX3_milkOf_26 : decode cX3_milkOf 26 = .ok (.goto 4, 3) := by decide +kernel
theorem dX3_milkOf_29 : decode cX3_milkOf 29 = .ok (.iconst 0, 1) := by decide +kernel
theorem dX3_milkOf_30 : decode cX3_milkOf 30 = .ok (.putfield 48, 3) := by decide +kernel
theorem dX3_milkOf_33 : decode cX3_milkOf 33 = .ok (.aload_n 0, 1) := by decide +kernel
theorem dX3_milkOf_34 : decode cX3_milkOf 34 = .ok (.getfield 48, 3) := by decide +kernel
theorem dX3_milkOf_37 : decode cX3_milkOf 37 = .ok (.ifCond .ne 7, 3) := by decide +kernel
theorem dX3_milkOf_40 : decode cX3_milkOf 40 = .ok (.iconst 0, 1) := by decide +kernel
theorem dX3_milkOf_41 : decode cX3_milkOf 41 = .ok (.goto 4, 3) := by decide +kernel
theorem dX3_milkOf_44 : decode cX3_milkOf 44 = .ok (.iconst (-1), 1) := by decide +kernel
theorem dX3_milkOf_45 : decode cX3_milkOf 45 = .ok (.istore_n 3, 1) := by decide +kernel
theorem dX3_milkOf_46 : decode cX3_milkOf 46 = .ok (.iconst 0, 1) := by decide +kernel
theorem dX3_milkOf_47 : decode cX3_milkOf 47 = .ok (.istore 4, 2) := by decide +kernel
theorem dX3_milkOf_49 : decode cX3_milkOf 49 = .ok (.aload_n 0, 1) := by decide +kernel
theorem dX3_milkOf_50 : decode cX3_milkOf 50 = .ok (.getfield 48, 3) := by decide +kernel
theorem dX3_milkOf_53 : decode cX3_milkOf 53 = .ok (.ifCond .ne 38, 3) := by decide +kernel
theorem dX3_milkOf_56 : decode cX3_milkOf 56 = .ok (.iload 4, 2) := by decide +kernel
theorem dX3_milkOf_58 : decode cX3_milkOf 58 = .ok (.aload_n 0, 1) := by decide +kernel
theorem dX3_milkOf_59 : decode cX3_milkOf 59 = .ok (.getfield 19, 3) := by decide +kernel
theorem dX3_milkOf_62 : decode cX3_milkOf 62 = .ok (.iload_n 1, 1) := by decide +kernel
theorem dX3_milkOf_63 : decode cX3_milkOf 63 = .ok (.iaload, 1) := by decide +kernel
theorem dX3_milkOf_64 : decode cX3_milkOf 64 = .ok (.if_icmp .ge 27, 3) := by decide +kernel
theorem dX3_milkOf_67 : decode cX3_milkOf 67 = .ok (.iload_n 3, 1) := by decide +kernel
theorem dX3_milkOf_68 : decode cX3_milkOf 68 = .ok (.aload_n 0, 1) := by decide +kernel
theorem dX3_milkOf_69 : decode cX3_milkOf 69 = .ok (.getfield 16, 3) := by decide +kernel
theorem dX3_milkOf_72 : decode cX3_milkOf 72 = .ok (.iconst 5, 1) := by decide +kernel
theorem dX3_milkOf_73 : decode cX3_milkOf 73 = .ok (.iload_n 1, 1) := by decide +kernel
theorem dX3_milkOf_74 : decode cX3_milkOf 74 = .ok (.imul, 1) := by decide +kernel
theorem dX3_milkOf_75 : decode cX3_milkOf 75 = .ok (.iload 4, 2) := by decide +kernel
theorem dX3_milkOf_77 : decode cX3_milkOf 77 = .ok (.iadd, 1) := by decide +kernel
theorem dX3_milkOf_78 : decode cX3_milkOf 78 = .ok (.iaload, 1) := by decide +kernel
theorem dX3_milkOf_79 : decode cX3_milkOf 79 = .ok (.iload_n 2, 1) := by decide +kernel
theorem dX3_milkOf_80 : decode cX3_milkOf 80 = .ok (.invokestatic 73, 3) := by decide +kernel
theorem dX3_milkOf_83 : decode cX3_milkOf 83 = .ok (.iadd, 1) := by decide +kernel
theorem dX3_milkOf_84 : decode cX3_milkOf 84 = .ok (.istore_n 3, 1) := by decide +kernel
theorem dX3_milkOf_85 : decode cX3_milkOf 85 = .ok (.iinc 4 1, 3) := by decide +kernel
theorem dX3_milkOf_88 : decode cX3_milkOf 88 = .ok (.goto (-39), 3) := by decide +kernel
theorem dX3_milkOf_91 : decode cX3_milkOf 91 = .ok (.iload_n 3, 1) := by decide +kernel
theorem dX3_milkOf_92 : decode cX3_milkOf 92 = .ok (.ireturn, 1) := by decide +kernel
theorem dX3_inTank_0 : decode cX3_inTank 0 = .ok (.aload_n 0, 1) := by decide +kernel
theorem dX3_inTank_1 : decode cX3_inTank 1 = .ok (.aload_n 0, 1) := by decide +kernel
theorem dX3_inTank_2 : decode cX3_inTank 2 = .ok (.iload_n 1, 1) := by decide +kernel
theorem dX3_inTank_3 : decode cX3_inTank 3 = .ok (.invokevirtual 63, 3) := by decide +kernel
theorem dX3_inTank_6 : decode cX3_inTank 6 = .ok (.ifCond .eq 7, 3) := by decide +kernel
theorem dX3_inTank_9 : decode cX3_inTank 9 = .ok (.iconst 0, 1) := by decide +kernel
theorem dX3_inTank_10 : decode cX3_inTank 10 = .ok (.goto 4, 3) := by decide +kernel
theorem dX3_inTank_13 : decode cX3_inTank 13 = .ok (.iconst 1, 1) := by decide +kernel
theorem dX3_inTank_14 : decode cX3_inTank 14 = .ok (.putfield 48, 3) := by decide +kernel
theorem dX3_inTank_17 : decode cX3_inTank 17 = .ok (.aload_n 0, 1) := by decide +kernel
theorem dX3_inTank_18 : decode cX3_inTank 18 = .ok (.getfield 48, 3) := by decide +kernel
theorem dX3_inTank_21 : decode cX3_inTank 21 = .ok (.ifCond .ne 12, 3) := by decide +kernel
theorem dX3_inTank_24 : decode cX3_inTank 24 = .ok (.aload_n 0, 1) := by decide +kernel
theorem dX3_inTank_25 : decode cX3_inTank 25 = .ok (.getfield 13, 3) := by decide +kernel
theorem dX3_inTank_28 : decode cX3_inTank 28 = .ok (.iload_n 1, 1) := by decide +kernel
theorem dX3_inTank_29 : decode cX3_inTank 29 = .ok (.iaload, 1) := by decide +kernel
theorem dX3_inTank_30 : decode cX3_inTank 30 = .ok (.goto 4, 3) := by decide +kernel
theorem dX3_inTank_33 : decode cX3_inTank 33 = .ok (.iconst (-1), 1) := by decide +kernel
theorem dX3_inTank_34 : decode cX3_inTank 34 = .ok (.ireturn, 1) := by decide +kernel
theorem dX3_pass_0 : decode cX3_pass 0 = .ok (.aload_n 0, 1) := by decide +kernel
theorem dX3_pass_1 : decode cX3_pass 1 = .ok (.iload_n 1, 1) := by decide +kernel
theorem dX3_pass_2 : decode cX3_pass 2 = .ok (.i2l, 1) := by decide +kernel
theorem dX3_pass_3 : decode cX3_pass 3 = .ok (.lconst 1, 1) := by decide +kernel
theorem dX3_pass_4 : decode cX3_pass 4 = .ok (.ldc2_w 69, 3) := by decide +kernel
theorem dX3_pass_7 : decode cX3_pass 7 = .ok (.invokestatic 56, 3) := by decide +kernel
theorem dX3_pass_10 : decode cX3_pass 10 = .ok (.ifCond .eq 19, 3) := by decide +kernel
theorem dX3_pass_13 : decode cX3_pass 13 = .ok (.aload_n 0, 1) := by decide +kernel
theorem dX3_pass_14 : decode cX3_pass 14 = .ok (.getfield 77, 3) := by decide +kernel
theorem dX3_pass_17 : decode cX3_pass 17 = .ok (.iload_n 1, 1) := by decide +kernel
theorem dX3_pass_18 : decode cX3_pass 18 = .ok (.iadd, 1) := by decide +kernel
theorem dX3_pass_19 : decode cX3_pass 19 = .ok (.sipush 999, 3) := by decide +kernel
theorem dX3_pass_22 : decode cX3_pass 22 = .ok (.if_icmp .gt 7, 3) := by decide +kernel
theorem dX3_pass_25 : decode cX3_pass 25 = .ok (.iconst 0, 1) := by decide +kernel
theorem dX3_pass_26 : decode cX3_pass 26 = .ok (.goto 4, 3) := by decide +kernel
theorem dX3_pass_29 : decode cX3_pass 29 = .ok (.iconst 1, 1) := by decide +kernel
theorem dX3_pass_30 : decode cX3_pass 30 = .ok (.putfield 48, 3) := by decide +kernel
theorem dX3_pass_33 : decode cX3_pass 33 = .ok (.aload_n 0, 1) := by decide +kernel
theorem dX3_pass_34 : decode cX3_pass 34 = .ok (.getfield 48, 3) := by decide +kernel
theorem dX3_pass_37 : decode cX3_pass 37 = .ok (.ifCond .ne 7, 3) := by decide +kernel
theorem dX3_pass_40 : decode cX3_pass 40 = .ok (.iconst 0, 1) := by decide +kernel
theorem dX3_pass_41 : decode cX3_pass 41 = .ok (.goto 4, 3) := by decide +kernel
theorem dX3_pass_44 : decode cX3_pass 44 = .ok (.iconst (-1), 1) := by decide +kernel
theorem dX3_pass_45 : decode cX3_pass 45 = .ok (.istore_n 2, 1) := by decide +kernel
theorem dX3_pass_46 : decode cX3_pass 46 = .ok (.iconst 0, 1) := by decide +kernel
theorem dX3_pass_47 : decode cX3_pass 47 = .ok (.istore_n 3, 1) := by decide +kernel
theorem dX3_pass_48 : decode cX3_pass 48 = .ok (.iload_n 3, 1) := by decide +kernel
theorem dX3_pass_49 : decode cX3_pass 49 = .ok (.iload_n 1, 1) := by decide +kernel
theorem dX3_pass_50 : decode cX3_pass 50 = .ok (.if_icmp .ge 139, 3) := by decide +kernel
theorem dX3_pass_53 : decode cX3_pass 53 = .ok (.aload_n 0, 1) := by decide +kernel
theorem dX3_pass_54 : decode cX3_pass 54 = .ok (.getfield 48, 3) := by decide +kernel
theorem dX3_pass_57 : decode cX3_pass 57 = .ok (.ifCond .ne 132, 3) := by decide +kernel
theorem dX3_pass_60 : decode cX3_pass 60 = .ok (.aload_n 0, 1) := by decide +kernel
theorem dX3_pass_61 : decode cX3_pass 61 = .ok (.dup, 1) := by decide +kernel
theorem dX3_pass_62 : decode cX3_pass 62 = .ok (.getfield 77, 3) := by decide +kernel
theorem dX3_pass_65 : decode cX3_pass 65 = .ok (.iconst 1, 1) := by decide +kernel
theorem dX3_pass_66 : decode cX3_pass 66 = .ok (.iadd, 1) := by decide +kernel
theorem dX3_pass_67 : decode cX3_pass 67 = .ok (.putfield 77, 3) := by decide +kernel
theorem dX3_pass_70 : decode cX3_pass 70 = .ok (.iconst 0, 1) := by decide +kernel
theorem dX3_pass_71 : decode cX3_pass 71 = .ok (.istore 4, 2) := by decide +kernel
theorem dX3_pass_73 : decode cX3_pass 73 = .ok (.iload 4, 2) := by decide +kernel
theorem dX3_pass_75 : decode cX3_pass 75 = .ok (.aload_n 0, 1) := by decide +kernel
theorem dX3_pass_76 : decode cX3_pass 76 = .ok (.getfield 60, 3) := by decide +kernel
theorem dX3_pass_79 : decode cX3_pass 79 = .ok (.if_icmp .ge 104, 3) := by decide +kernel
theorem dX3_pass_82 : decode cX3_pass 82 = .ok (.iconst 0, 1) := by decide +kernel
theorem dX3_pass_83 : decode cX3_pass 83 = .ok (.istore 5, 2) := by decide +kernel
theorem dX3_pass_85 : decode cX3_pass 85 = .ok (.iload 5, 2) := by decide +kernel
theorem dX3_pass_87 : decode cX3_pass 87 = .ok (.aload_n 0, 1) := by decide +kernel
theorem dX3_pass_88 : decode cX3_pass 88 = .ok (.getfield 19, 3) := by decide +kernel
theorem dX3_pass_91 : decode cX3_pass 91 = .ok (.iload 4, 2) := by decide +kernel
theorem dX3_pass_93 : decode cX3_pass 93 = .ok (.iaload, 1) := by decide +kernel
theorem dX3_pass_94 : decode cX3_pass 94 = .ok (.if_icmp .ge 83, 3) := by decide +kernel
theorem dX3_pass_97 : decode cX3_pass 97 = .ok (.aload_n 0, 1) := by decide +kernel
theorem dX3_pass_98 : decode cX3_pass 98 = .ok (.getfield 16, 3) := by decide +kernel
theorem dX3_pass_101 : decode cX3_pass 101 = .ok (.iconst 5, 1) := by decide +kernel
theorem dX3_pass_102 : decode cX3_pass 102 = .ok (.iload 4, 2) := by decide +kernel
theorem dX3_pass_104 : decode cX3_pass 104 = .ok (.imul, 1) := by decide +kernel
theorem dX3_pass_105 : decode cX3_pass 105 = .ok (.iload 5, 2) := by decide +kernel
theorem dX3_pass_107 : decode cX3_pass 107 = .ok (.iadd, 1) := by decide +kernel
theorem dX3_pass_108 : decode cX3_pass 108 = .ok (.iaload, 1) := by decide +kernel
theorem dX3_pass_109 : decode cX3_pass 109 = .ok (.aload_n 0, 1) := by decide +kernel
theorem dX3_pass_110 : decode cX3_pass 110 = .ok (.getfield 77, 3) := by decide +kernel
theorem dX3_pass_113 : decode cX3_pass 113 = .ok (.invokestatic 73, 3) := by decide +kernel
theorem dX3_pass_116 : decode cX3_pass 116 = .ok (.istore 6, 2) := by decide +kernel
theorem dX3_pass_118 : decode cX3_pass 118 = .ok (.aload_n 0, 1) := by decide +kernel
theorem dX3_pass_119 : decode cX3_pass 119 = .ok (.getfield 7, 3) := by decide +kernel
theorem dX3_pass_122 : decode cX3_pass 122 = .ok (.iload 4, 2) := by decide +kernel
theorem dX3_pass_124 : decode cX3_pass 124 = .ok (.iaload, 1) := by decide +kernel
theorem dX3_pass_125 : decode cX3_pass 125 = .ok (.aload_n 0, 1) := by decide +kernel
theorem dX3_pass_126 : decode cX3_pass 126 = .ok (.getfield 13, 3) := by decide +kernel
theorem dX3_pass_129 : decode cX3_pass 129 = .ok (.iload 4, 2) := by decide +kernel
theorem dX3_pass_131 : decode cX3_pass 131 = .ok (.iaload, 1) := by decide +kernel
theorem dX3_pass_132 : decode cX3_pass 132 = .ok (.isub, 1) := by decide +kernel
theorem dX3_pass_133 : decode cX3_pass 133 = .ok (.istore 7, 2) := by decide +kernel
theorem dX3_pass_135 : decode cX3_pass 135 = .ok (.iload 6, 2) := by decide +kernel
theorem dX3_pass_137 : decode cX3_pass 137 = .ok (.iload 7, 2) := by decide +kernel
theorem dX3_pass_139 : decode cX3_pass 139 = .ok (.if_icmp .ge 8, 3) := by decide +kernel
theorem dX3_pass_142 : decode cX3_pass 142 = .ok (.iload 6, 2) := by decide +kernel
theorem dX3_pass_144 : decode cX3_pass 144 = .ok (.goto 5, 3) := by decide +kernel
theorem dX3_pass_147 : decode cX3_pass 147 = .ok (.iload 7, 2) := by decide +kernel
theorem dX3_pass_149 : decode cX3_pass 149 = .ok (.istore 8, 2) := by decide +kernel
theorem dX3_pass_151 : decode cX3_pass 151 = .ok (.aload_n 0, 1) := by decide +kernel
theorem dX3_pass_152 : decode cX3_pass 152 = .ok (.getfield 13, 3) := by decide +kernel
theorem dX3_pass_155 : decode cX3_pass 155 = .ok (.iload 4, 2) := by decide +kernel
theorem dX3_pass_157 : decode cX3_pass 157 = .ok (.dup2, 1) := by decide +kernel
theorem dX3_pass_158 : decode cX3_pass 158 = .ok (.iaload, 1) := by decide +kernel
theorem dX3_pass_159 : decode cX3_pass 159 = .ok (.iload 8, 2) := by decide +kernel
theorem dX3_pass_161 : decode cX3_pass 161 = .ok (.iadd, 1) := by decide +kernel
theorem dX3_pass_162 : decode cX3_pass 162 = .ok (.iastore, 1) := by decide +kernel
theorem dX3_pass_163 : decode cX3_pass 163 = .ok (.iload_n 2, 1) := by decide +kernel
theorem dX3_pass_164 : decode cX3_pass 164 = .ok (.iload 6, 2) := by decide +kernel
theorem dX3_pass_166 : decode cX3_pass 166 = .ok (.iload 8, 2) := by decide +kernel
theorem dX3_pass_168 : decode cX3_pass 168 = .ok (.isub, 1) := by decide +kernel
theorem dX3_pass_169 : decode cX3_pass 169 = .ok (.iadd, 1) := by decide +kernel
theorem dX3_pass_170 : decode cX3_pass 170 = .ok (.istore_n 2, 1) := by decide +kernel
theorem dX3_pass_171 : decode cX3_pass 171 = .ok (.iinc 5 1, 3) := by decide +kernel
theorem dX3_pass_174 : decode cX3_pass 174 = .ok (.goto (-89), 3) := by decide +kernel
theorem dX3_pass_177 : decode cX3_pass 177 = .ok (.iinc 4 1, 3) := by decide +kernel
theorem dX3_pass_180 : decode cX3_pass 180 = .ok (.goto (-107), 3) := by decide +kernel
theorem dX3_pass_183 : decode cX3_pass 183 = .ok (.iinc 3 1, 3) := by decide +kernel
theorem dX3_pass_186 : decode cX3_pass 186 = .ok (.goto (-138), 3) := by decide +kernel
theorem dX3_pass_189 : decode cX3_pass 189 = .ok (.iload_n 2, 1) := by decide +kernel
theorem dX3_pass_190 : decode cX3_pass 190 = .ok (.ireturn, 1) := by decide +kernel
theorem dX3_day_0 : decode cX3_day 0 = .ok (.aload_n 0, 1) := by decide +kernel
theorem dX3_day_1 : decode cX3_day 1 = .ok (.iconst 0, 1) := by decide +kernel
theorem dX3_day_2 : decode cX3_day 2 = .ok (.putfield 48, 3) := by decide +kernel
theorem dX3_day_5 : decode cX3_day 5 = .ok (.aload_n 0, 1) := by decide +kernel
theorem dX3_day_6 : decode cX3_day 6 = .ok (.getfield 77, 3) := by decide +kernel
theorem dX3_day_9 : decode cX3_day 9 = .ok (.ireturn, 1) := by decide +kernel
theorem dX3_addVat_0 : decode cX3_addVat 0 = .ok (.aload_n 0, 1) := by decide +kernel
theorem dX3_addVat_1 : decode cX3_addVat 1 = .ok (.iload_n 1, 1) := by decide +kernel
theorem dX3_addVat_2 : decode cX3_addVat 2 = .ok (.i2l, 1) := by decide +kernel
theorem dX3_addVat_3 : decode cX3_addVat 3 = .ok (.ldc2_w 80, 3) := by decide +kernel
theorem dX3_addVat_6 : decode cX3_addVat 6 = .ok (.ldc2_w 82, 3) := by decide +kernel
theorem dX3_addVat_9 : decode cX3_addVat 9 = .ok (.invokestatic 56, 3) := by decide +kernel
theorem dX3_addVat_12 : decode cX3_addVat 12 = .ok (.ifCond .ne 7, 3) := by decide +kernel
theorem dX3_addVat_15 : decode cX3_addVat 15 = .ok (.iconst 1, 1) := by decide +kernel
theorem dX3_addVat_16 : decode cX3_addVat 16 = .ok (.goto 16, 3) := by decide +kernel
theorem dX3_addVat_19 : decode cX3_addVat 19 = .ok (.aload_n 0, 1) := by decide +kernel
theorem dX3_addVat_20 : decode cX3_addVat 20 = .ok (.getfield 84, 3) := by decide +kernel
theorem dX3_addVat_23 : decode cX3_addVat 23 = .ok (.iconst 4, 1) := by decide +kernel
theorem dX3_addVat_24 : decode cX3_addVat 24 = .ok (.if_icmp .ne 7, 3) := by decide +kernel
theorem dX3_addVat_27 : decode cX3_addVat 27 = .ok (.iconst 2, 1) := by decide +kernel
theorem dX3_addVat_28 : decode cX3_addVat 28 = .ok (.goto 4, 3) := by decide +kernel
theorem dX3_addVat_31 : decode cX3_addVat 31 = .ok (.iconst 0, 1) := by decide +kernel
theorem dX3_addVat_32 : decode cX3_addVat 32 = .ok (.putfield 48, 3) := by decide +kernel
theorem dX3_addVat_35 : decode cX3_addVat 35 = .ok (.aload_n 0, 1) := by decide +kernel
theorem dX3_addVat_36 : decode cX3_addVat 36 = .ok (.getfield 48, 3) := by decide +kernel
theorem dX3_addVat_39 : decode cX3_addVat 39 = .ok (.ifCond .le 5, 3) := by decide +kernel
theorem dX3_addVat_42 : decode cX3_addVat 42 = .ok (.iconst (-1), 1) := by decide +kernel
theorem dX3_addVat_43 : decode cX3_addVat 43 = .ok (.ireturn, 1) := by decide +kernel
theorem dX3_addVat_44 : decode cX3_addVat 44 = .ok (.aload_n 0, 1) := by decide +kernel
theorem dX3_addVat_45 : decode cX3_addVat 45 = .ok (.getfield 22, 3) := by decide +kernel
theorem dX3_addVat_48 : decode cX3_addVat 48 = .ok (.aload_n 0, 1) := by decide +kernel
theorem dX3_addVat_49 : decode cX3_addVat 49 = .ok (.getfield 84, 3) := by decide +kernel
theorem dX3_addVat_52 : decode cX3_addVat 52 = .ok (.iload_n 1, 1) := by decide +kernel
theorem dX3_addVat_53 : decode cX3_addVat 53 = .ok (.iastore, 1) := by decide +kernel
theorem dX3_addVat_54 : decode cX3_addVat 54 = .ok (.aload_n 0, 1) := by decide +kernel
theorem dX3_addVat_55 : decode cX3_addVat 55 = .ok (.dup, 1) := by decide +kernel
theorem dX3_addVat_56 : decode cX3_addVat 56 = .ok (.getfield 84, 3) := by decide +kernel
theorem dX3_addVat_59 : decode cX3_addVat 59 = .ok (.iconst 1, 1) := by decide +kernel
theorem dX3_addVat_60 : decode cX3_addVat 60 = .ok (.iadd, 1) := by decide +kernel
theorem dX3_addVat_61 : decode cX3_addVat 61 = .ok (.putfield 84, 3) := by decide +kernel
theorem dX3_addVat_64 : decode cX3_addVat 64 = .ok (.aload_n 0, 1) := by decide +kernel
theorem dX3_addVat_65 : decode cX3_addVat 65 = .ok (.getfield 84, 3) := by decide +kernel
theorem dX3_addVat_68 : decode cX3_addVat 68 = .ok (.iconst 1, 1) := by decide +kernel
theorem dX3_addVat_69 : decode cX3_addVat 69 = .ok (.isub, 1) := by decide +kernel
theorem dX3_addVat_70 : decode cX3_addVat 70 = .ok (.ireturn, 1) := by decide +kernel
theorem dX3_beginRound_0 : decode cX3_beginRound 0 = .ok (.aload_n 0, 1) := by decide +kernel
theorem dX3_beginRound_1 : decode cX3_beginRound 1 = .ok (.aload_n 0, 1) := by decide +kernel
theorem dX3_beginRound_2 : decode cX3_beginRound 2 = .ok (.getfield 87, 3) := by decide +kernel
theorem dX3_beginRound_5 : decode cX3_beginRound 5 = .ok (.ifCond .eq 7, 3) := by decide +kernel
theorem dX3_beginRound_8 : decode cX3_beginRound 8 = .ok (.iconst 1, 1) := by decide +kernel
theorem dX3_beginRound_9 : decode cX3_beginRound 9 = .ok (.goto 4, 3) := by decide +kernel
theorem dX3_beginRound_12 : decode cX3_beginRound 12 = .ok (.iconst 0, 1) := by decide +kernel
theorem dX3_beginRound_13 : decode cX3_beginRound 13 = .ok (.putfield 48, 3) := by decide +kernel
theorem dX3_beginRound_16 : decode cX3_beginRound 16 = .ok (.aload_n 0, 1) := by decide +kernel
theorem dX3_beginRound_17 : decode cX3_beginRound 17 = .ok (.getfield 48, 3) := by decide +kernel
theorem dX3_beginRound_20 : decode cX3_beginRound 20 = .ok (.ifCond .le 5, 3) := by decide +kernel
theorem dX3_beginRound_23 : decode cX3_beginRound 23 = .ok (.iconst (-1), 1) := by decide +kernel
theorem dX3_beginRound_24 : decode cX3_beginRound 24 = .ok (.ireturn, 1) := by decide +kernel
theorem dX3_beginRound_25 : decode cX3_beginRound 25 = .ok (.aload_n 0, 1) := by decide +kernel
theorem dX3_beginRound_26 : decode cX3_beginRound 26 = .ok (.iconst 1, 1) := by decide +kernel
theorem dX3_beginRound_27 : decode cX3_beginRound 27 = .ok (.putfield 87, 3) := by decide +kernel
theorem dX3_beginRound_30 : decode cX3_beginRound 30 = .ok (.iconst 0, 1) := by decide +kernel
theorem dX3_beginRound_31 : decode cX3_beginRound 31 = .ok (.istore_n 1, 1) := by decide +kernel
theorem dX3_beginRound_32 : decode cX3_beginRound 32 = .ok (.iload_n 1, 1) := by decide +kernel
theorem dX3_beginRound_33 : decode cX3_beginRound 33 = .ok (.bipush 6, 2) := by decide +kernel
theorem dX3_beginRound_35 : decode cX3_beginRound 35 = .ok (.if_icmp .ge 16, 3) := by decide +kernel
theorem dX3_beginRound_38 : decode cX3_beginRound 38 = .ok (.aload_n 0, 1) := by decide +kernel
theorem dX3_beginRound_39 : decode cX3_beginRound 39 = .ok (.getfield 31, 3) := by decide +kernel
theorem dX3_beginRound_42 : decode cX3_beginRound 42 = .ok (.iload_n 1, 1) := by decide +kernel
theorem dX3_beginRound_43 : decode cX3_beginRound 43 = .ok (.iconst 0, 1) := by decide +kernel
theorem dX3_beginRound_44 : decode cX3_beginRound 44 = .ok (.bastore, 1) := by decide +kernel
theorem dX3_beginRound_45 : decode cX3_beginRound 45 = .ok (.iinc 1 1, 3) := by decide +kernel
theorem dX3_beginRound_48 : decode cX3_beginRound 48 = .ok (.goto (-16), 3) := by decide +kernel
theorem dX3_beginRound_51 : decode cX3_beginRound 51 = .ok (.aload_n 0, 1) := by decide +kernel
theorem dX3_beginRound_52 : decode cX3_beginRound 52 = .ok (.dup, 1) := by decide +kernel
theorem dX3_beginRound_53 : decode cX3_beginRound 53 = .ok (.getfield 91, 3) := by decide +kernel
theorem dX3_beginRound_56 : decode cX3_beginRound 56 = .ok (.iconst 1, 1) := by decide +kernel
theorem dX3_beginRound_57 : decode cX3_beginRound 57 = .ok (.iadd, 1) := by decide +kernel
theorem dX3_beginRound_58 : decode cX3_beginRound 58 = .ok (.putfield 91, 3) := by decide +kernel
theorem dX3_beginRound_61 : decode cX3_beginRound 61 = .ok (.aload_n 0, 1) := by decide +kernel
theorem dX3_beginRound_62 : decode cX3_beginRound 62 = .ok (.getfield 91, 3) := by decide +kernel
theorem dX3_beginRound_65 : decode cX3_beginRound 65 = .ok (.ireturn, 1) := by decide +kernel
theorem dX3_visit_0 : decode cX3_visit 0 = .ok (.aload_n 0, 1) := by decide +kernel
theorem dX3_visit_1 : decode cX3_visit 1 = .ok (.aload_n 0, 1) := by decide +kernel
theorem dX3_visit_2 : decode cX3_visit 2 = .ok (.iload_n 1, 1) := by decide +kernel
theorem dX3_visit_3 : decode cX3_visit 3 = .ok (.invokevirtual 63, 3) := by decide +kernel
theorem dX3_visit_6 : decode cX3_visit 6 = .ok (.ifCond .ne 7, 3) := by decide +kernel
theorem dX3_visit_9 : decode cX3_visit 9 = .ok (.iconst 1, 1) := by decide +kernel
theorem dX3_visit_10 : decode cX3_visit 10 = .ok (.goto 33, 3) := by decide +kernel
theorem dX3_visit_13 : decode cX3_visit 13 = .ok (.aload_n 0, 1) := by decide +kernel
theorem dX3_visit_14 : decode cX3_visit 14 = .ok (.getfield 87, 3) := by decide +kernel
theorem dX3_visit_17 : decode cX3_visit 17 = .ok (.ifCond .eq 21, 3) := by decide +kernel
theorem dX3_visit_20 : decode cX3_visit 20 = .ok (.aload_n 0, 1) := by decide +kernel
theorem dX3_visit_21 : decode cX3_visit 21 = .ok (.getfield 31, 3) := by decide +kernel
theorem dX3_visit_24 : decode cX3_visit 24 = .ok (.iload_n 1, 1) := by decide +kernel
theorem dX3_visit_25 : decode cX3_visit 25 = .ok (.baload, 1) := by decide +kernel
theorem dX3_visit_26 : decode cX3_visit 26 = .ok (.ifCond .ne 12, 3) := by decide +kernel
theorem dX3_visit_29 : decode cX3_visit 29 = .ok (.aload_n 0, 1) := by decide +kernel
theorem dX3_visit_30 : decode cX3_visit 30 = .ok (.getfield 94, 3) := by decide +kernel
theorem dX3_visit_33 : decode cX3_visit 33 = .ok (.bipush 100, 2) := by decide +kernel
theorem dX3_visit_35 : decode cX3_visit 35 = .ok (.if_icmp .ne 7, 3) := by decide +kernel
theorem dX3_visit_38 : decode cX3_visit 38 = .ok (.iconst 2, 1) := by decide +kernel
theorem dX3_visit_39 : decode cX3_visit 39 = .ok (.goto 4, 3) := by decide +kernel
theorem dX3_visit_42 : decode cX3_visit 42 = .ok (.iconst 0, 1) := by decide +kernel
theorem dX3_visit_43 : decode cX3_visit 43 = .ok (.putfield 48, 3) := by decide +kernel
theorem dX3_visit_46 : decode cX3_visit 46 = .ok (.aload_n 0, 1) := by decide +kernel
theorem dX3_visit_47 : decode cX3_visit 47 = .ok (.getfield 48, 3) := by decide +kernel
theorem dX3_visit_50 : decode cX3_visit 50 = .ok (.ifCond .le 5, 3) := by decide +kernel
theorem dX3_visit_53 : decode cX3_visit 53 = .ok (.iconst (-1), 1) := by decide +kernel
theorem dX3_visit_54 : decode cX3_visit 54 = .ok (.ireturn, 1) := by decide +kernel
theorem dX3_visit_55 : decode cX3_visit 55 = .ok (.aload_n 0, 1) := by decide +kernel
theorem dX3_visit_56 : decode cX3_visit 56 = .ok (.getfield 31, 3) := by decide +kernel
theorem dX3_visit_59 : decode cX3_visit 59 = .ok (.iload_n 1, 1) := by decide +kernel
theorem dX3_visit_60 : decode cX3_visit 60 = .ok (.iconst 1, 1) := by decide +kernel
theorem dX3_visit_61 : decode cX3_visit 61 = .ok (.bastore, 1) := by decide +kernel
theorem dX3_visit_62 : decode cX3_visit 62 = .ok (.sipush 400, 3) := by decide +kernel
theorem dX3_visit_65 : decode cX3_visit 65 = .ok (.aload_n 0, 1) := by decide +kernel
theorem dX3_visit_66 : decode cX3_visit 66 = .ok (.getfield 97, 3) := by decide +kernel
theorem dX3_visit_69 : decode cX3_visit 69 = .ok (.isub, 1) := by decide +kernel
theorem dX3_visit_70 : decode cX3_visit 70 = .ok (.istore_n 2, 1) := by decide +kernel
theorem dX3_visit_71 : decode cX3_visit 71 = .ok (.aload_n 0, 1) := by decide +kernel
theorem dX3_visit_72 : decode cX3_visit 72 = .ok (.getfield 13, 3) := by decide +kernel
theorem dX3_visit_75 : decode cX3_visit 75 = .ok (.iload_n 1, 1) := by decide +kernel
theorem dX3_visit_76 : decode cX3_visit 76 = .ok (.iaload, 1) := by decide +kernel
theorem dX3_visit_77 : decode cX3_visit 77 = .ok (.iload_n 2, 1) := by decide +kernel
theorem dX3_visit_78 : decode cX3_visit 78 = .ok (.if_icmp .ge 12, 3) := by decide +kernel
theorem dX3_visit_81 : decode cX3_visit 81 = .ok (.aload_n 0, 1) := by decide +kernel
theorem dX3_visit_82 : decode cX3_visit 82 = .ok (.getfield 13, 3) := by decide +kernel
theorem dX3_visit_85 : decode cX3_visit 85 = .ok (.iload_n 1, 1) := by decide +kernel
theorem dX3_visit_86 : decode cX3_visit 86 = .ok (.iaload, 1) := by decide +kernel
theorem dX3_visit_87 : decode cX3_visit 87 = .ok (.goto 4, 3) := by decide +kernel
theorem dX3_visit_90 : decode cX3_visit 90 = .ok (.iload_n 2, 1) := by decide +kernel
theorem dX3_visit_91 : decode cX3_visit 91 = .ok (.istore_n 3, 1) := by decide +kernel
theorem dX3_visit_92 : decode cX3_visit 92 = .ok (.aload_n 0, 1) := by decide +kernel
theorem dX3_visit_93 : decode cX3_visit 93 = .ok (.getfield 13, 3) := by decide +kernel
theorem dX3_visit_96 : decode cX3_visit 96 = .ok (.iload_n 1, 1) := by decide +kernel
theorem dX3_visit_97 : decode cX3_visit 97 = .ok (.dup2, 1) := by decide +kernel
theorem dX3_visit_98 : decode cX3_visit 98 = .ok (.iaload, 1) := by decide +kernel
theorem dX3_visit_99 : decode cX3_visit 99 = .ok (.iload_n 3, 1) := by decide +kernel
theorem dX3_visit_100 : decode cX3_visit 100 = .ok (.isub, 1) := by decide +kernel
theorem dX3_visit_101 : decode cX3_visit 101 = .ok (.iastore, 1) := by decide +kernel
theorem dX3_visit_102 : decode cX3_visit 102 = .ok (.aload_n 0, 1) := by decide +kernel
theorem dX3_visit_103 : decode cX3_visit 103 = .ok (.dup, 1) := by decide +kernel
theorem dX3_visit_104 : decode cX3_visit 104 = .ok (.getfield 97, 3) := by decide +kernel
theorem dX3_visit_107 : decode cX3_visit 107 = .ok (.iload_n 3, 1) := by decide +kernel
theorem dX3_visit_108 : decode cX3_visit 108 = .ok (.iadd, 1) := by decide +kernel
theorem dX3_visit_109 : decode cX3_visit 109 = .ok (.putfield 97, 3) := by decide +kernel
theorem dX3_visit_112 : decode cX3_visit 112 = .ok (.iload_n 3, 1) := by decide +kernel
theorem dX3_visit_113 : decode cX3_visit 113 = .ok (.ifCond .le 54, 3) := by decide +kernel
theorem dX3_visit_116 : decode cX3_visit 116 = .ok (.aload_n 0, 1) := by decide +kernel
theorem dX3_visit_117 : decode cX3_visit 117 = .ok (.getfield 35, 3) := by decide +kernel
theorem dX3_visit_120 : decode cX3_visit 120 = .ok (.aload_n 0, 1) := by decide +kernel
theorem dX3_visit_121 : decode cX3_visit 121 = .ok (.getfield 94, 3) := by decide +kernel
theorem dX3_visit_124 : decode cX3_visit 124 = .ok (.iload_n 1, 1) := by decide +kernel
theorem dX3_visit_125 : decode cX3_visit 125 = .ok (.iastore, 1) := by decide +kernel
theorem dX3_visit_126 : decode cX3_visit 126 = .ok (.aload_n 0, 1) := by decide +kernel
theorem dX3_visit_127 : decode cX3_visit 127 = .ok (.getfield 38, 3) := by decide +kernel
theorem dX3_visit_130 : decode cX3_visit 130 = .ok (.aload_n 0, 1) := by decide +kernel
theorem dX3_visit_131 : decode cX3_visit 131 = .ok (.getfield 94, 3) := by decide +kernel
theorem dX3_visit_134 : decode cX3_visit 134 = .ok (.iload_n 3, 1) := by decide +kernel
theorem dX3_visit_135 : decode cX3_visit 135 = .ok (.iastore, 1) := by decide +kernel
theorem dX3_visit_136 : decode cX3_visit 136 = .ok (.aload_n 0, 1) := by decide +kernel
theorem dX3_visit_137 : decode cX3_visit 137 = .ok (.getfield 41, 3) := by decide +kernel
theorem dX3_visit_140 : decode cX3_visit 140 = .ok (.aload_n 0, 1) := by decide +kernel
theorem dX3_visit_141 : decode cX3_visit 141 = .ok (.getfield 94, 3) := by decide +kernel
theorem dX3_visit_144 : decode cX3_visit 144 = .ok (.bipush 45, 2) := by decide +kernel
theorem dX3_visit_146 : decode cX3_visit 146 = .ok (.castore, 1) := by decide +kernel
theorem dX3_visit_147 : decode cX3_visit 147 = .ok (.aload_n 0, 1) := by decide +kernel
theorem dX3_visit_148 : decode cX3_visit 148 = .ok (.getfield 45, 3) := by decide +kernel
theorem dX3_visit_151 : decode cX3_visit 151 = .ok (.aload_n 0, 1) := by decide +kernel
theorem dX3_visit_152 : decode cX3_visit 152 = .ok (.getfield 94, 3) := by decide +kernel
theorem dX3_visit_155 : decode cX3_visit 155 = .ok (.iconst (-1), 1) := by decide +kernel
theorem dX3_visit_156 : decode cX3_visit 156 = .ok (.iastore, 1) := by decide +kernel
theorem dX3_visit_157 : decode cX3_visit 157 = .ok (.aload_n 0, 1) := by decide +kernel
theorem dX3_visit_158 : decode cX3_visit 158 = .ok (.dup, 1) := by decide +kernel
theorem dX3_visit_159 : decode cX3_visit 159 = .ok (.getfield 94, 3) := by decide +kernel
theorem dX3_visit_162 : decode cX3_visit 162 = .ok (.iconst 1, 1) := by decide +kernel
theorem dX3_visit_163 : decode cX3_visit 163 = .ok (.iadd, 1) := by decide +kernel
theorem dX3_visit_164 : decode cX3_visit 164 = .ok (.putfield 94, 3) := by decide +kernel
theorem dX3_visit_167 : decode cX3_visit 167 = .ok (.iload_n 3, 1) := by decide +kernel
theorem dX3_visit_168 : decode cX3_visit 168 = .ok (.ireturn, 1) := by decide +kernel
theorem dX3_isVat_0 : decode cX3_isVat 0 = .ok (.iload_n 1, 1) := by decide +kernel
theorem dX3_isVat_1 : decode cX3_isVat 1 = .ok (.i2l, 1) := by decide +kernel
theorem dX3_isVat_2 : decode cX3_isVat 2 = .ok (.lconst 0, 1) := by decide +kernel
theorem dX3_isVat_3 : decode cX3_isVat 3 = .ok (.aload_n 0, 1) := by decide +kernel
theorem dX3_isVat_4 : decode cX3_isVat 4 = .ok (.getfield 84, 3) := by decide +kernel
theorem dX3_isVat_7 : decode cX3_isVat 7 = .ok (.iconst 1, 1) := by decide +kernel
theorem dX3_isVat_8 : decode cX3_isVat 8 = .ok (.isub, 1) := by decide +kernel
theorem dX3_isVat_9 : decode cX3_isVat 9 = .ok (.i2l, 1) := by decide +kernel
theorem dX3_isVat_10 : decode cX3_isVat 10 = .ok (.invokestatic 56, 3) := by decide +kernel
theorem dX3_isVat_13 : decode cX3_isVat 13 = .ok (.ireturn, 1) := by decide +kernel
theorem dX3_onWay_0 : decode cX3_onWay 0 = .ok (.iconst 0, 1) := by decide +kernel
theorem dX3_onWay_1 : decode cX3_onWay 1 = .ok (.istore_n 2, 1) := by decide +kernel
theorem dX3_onWay_2 : decode cX3_onWay 2 = .ok (.iconst 0, 1) := by decide +kernel
theorem dX3_onWay_3 : decode cX3_onWay 3 = .ok (.istore_n 3, 1) := by decide +kernel
theorem dX3_onWay_4 : decode cX3_onWay 4 = .ok (.iload_n 3, 1) := by decide +kernel
theorem dX3_onWay_5 : decode cX3_onWay 5 = .ok (.aload_n 0, 1) := by decide +kernel
theorem dX3_onWay_6 : decode cX3_onWay 6 = .ok (.getfield 94, 3) := by decide +kernel
theorem dX3_onWay_9 : decode cX3_onWay 9 = .ok (.if_icmp .ge 27, 3) := by decide +kernel
theorem dX3_onWay_12 : decode cX3_onWay 12 = .ok (.iload_n 2, 1) := by decide +kernel
theorem dX3_onWay_13 : decode cX3_onWay 13 = .ok (.aload_n 0, 1) := by decide +kernel
theorem dX3_onWay_14 : decode cX3_onWay 14 = .ok (.getfield 45, 3) := by decide +kernel
theorem dX3_onWay_17 : decode cX3_onWay 17 = .ok (.iload_n 3, 1) := by decide +kernel
theorem dX3_onWay_18 : decode cX3_onWay 18 = .ok (.iaload, 1) := by decide +kernel
theorem dX3_onWay_19 : decode cX3_onWay 19 = .ok (.iload_n 1, 1) := by decide +kernel
theorem dX3_onWay_20 : decode cX3_onWay 20 = .ok (.if_icmp .ne 7, 3) := by decide +kernel
theorem dX3_onWay_23 : decode cX3_onWay 23 = .ok (.iconst 1, 1) := by decide +kernel
theorem dX3_onWay_24 : decode cX3_onWay 24 = .ok (.goto 4, 3) := by decide +kernel
theorem dX3_onWay_27 : decode cX3_onWay 27 = .ok (.iconst 0, 1) := by decide +kernel
theorem dX3_onWay_28 : decode cX3_onWay 28 = .ok (.iadd, 1) := by decide +kernel
theorem dX3_onWay_29 : decode cX3_onWay 29 = .ok (.istore_n 2, 1) := by decide +kernel
theorem dX3_onWay_30 : decode cX3_onWay 30 = .ok (.iinc 3 1, 3) := by decide +kernel
theorem dX3_onWay_33 : decode cX3_onWay 33 = .ok (.goto (-29), 3) := by decide +kernel
theorem dX3_onWay_36 : decode cX3_onWay 36 = .ok (.iload_n 2, 1) := by decide +kernel
theorem dX3_onWay_37 : decode cX3_onWay 37 = .ok (.ireturn, 1) := by decide +kernel
theorem dX3_endRound_0 : decode cX3_endRound 0 = .ok (.aload_n 0, 1) := by decide +kernel
theorem dX3_endRound_1 : decode cX3_endRound 1 = .ok (.iload_n 1, 1) := by decide +kernel
theorem dX3_endRound_2 : decode cX3_endRound 2 = .ok (.invokevirtual 100, 3) := by decide +kernel
theorem dX3_endRound_5 : decode cX3_endRound 5 = .ok (.ifCond .eq 10, 3) := by decide +kernel
theorem dX3_endRound_8 : decode cX3_endRound 8 = .ok (.aload_n 0, 1) := by decide +kernel
theorem dX3_endRound_9 : decode cX3_endRound 9 = .ok (.getfield 87, 3) := by decide +kernel
theorem dX3_endRound_12 : decode cX3_endRound 12 = .ok (.ifCond .ne 22, 3) := by decide +kernel
theorem dX3_endRound_15 : decode cX3_endRound 15 = .ok (.aload_n 0, 1) := by decide +kernel
theorem dX3_endRound_16 : decode cX3_endRound 16 = .ok (.aload_n 0, 1) := by decide +kernel
theorem dX3_endRound_17 : decode cX3_endRound 17 = .ok (.iload_n 1, 1) := by decide +kernel
theorem dX3_endRound_18 : decode cX3_endRound 18 = .ok (.invokevirtual 100, 3) := by decide +kernel
theorem dX3_endRound_21 : decode cX3_endRound 21 = .ok (.ifCond .ne 7, 3) := by decide +kernel
theorem dX3_endRound_24 : decode cX3_endRound 24 = .ok (.iconst 1, 1) := by decide +kernel
theorem dX3_endRound_25 : decode cX3_endRound 25 = .ok (.goto 4, 3) := by decide +kernel
theorem dX3_endRound_28 : decode cX3_endRound 28 = .ok (.iconst 2, 1) := by decide +kernel
theorem dX3_endRound_29 : decode cX3_endRound 29 = .ok (.putfield 48, 3) := by decide +kernel
theorem dX3_endRound_32 : decode cX3_endRound 32 = .ok (.iconst (-1), 1) := by decide +kernel
theorem dX3_endRound_33 : decode cX3_endRound 33 = .ok (.ireturn, 1) := by decide +kernel
theorem dX3_endRound_34 : decode cX3_endRound 34 = .ok (.aload_n 0, 1) := by decide +kernel
theorem dX3_endRound_35 : decode cX3_endRound 35 = .ok (.getfield 25, 3) := by decide +kernel
theorem dX3_endRound_38 : decode cX3_endRound 38 = .ok (.iload_n 1, 1) := by decide +kernel
theorem dX3_endRound_39 : decode cX3_endRound 39 = .ok (.iaload, 1) := by decide +kernel
theorem dX3_endRound_40 : decode cX3_endRound 40 = .ok (.aload_n 0, 1) := by decide +kernel
theorem dX3_endRound_41 : decode cX3_endRound 41 = .ok (.getfield 97, 3) := by decide +kernel
theorem dX3_endRound_44 : decode cX3_endRound 44 = .ok (.iadd, 1) := by decide +kernel
theorem dX3_endRound_45 : decode cX3_endRound 45 = .ok (.aload_n 0, 1) := by decide +kernel
theorem dX3_endRound_46 : decode cX3_endRound 46 = .ok (.getfield 22, 3) := by decide +kernel
theorem dX3_endRound_49 : decode cX3_endRound 49 = .ok (.iload_n 1, 1) := by decide +kernel
theorem dX3_endRound_50 : decode cX3_endRound 50 = .ok (.iaload, 1) := by decide +kernel
theorem dX3_endRound_51 : decode cX3_endRound 51 = .ok (.if_icmp .gt 24, 3) := by decide +kernel
theorem dX3_endRound_54 : decode cX3_endRound 54 = .ok (.aload_n 0, 1) := by decide +kernel
theorem dX3_endRound_55 : decode cX3_endRound 55 = .ok (.getfield 28, 3) := by decide +kernel
theorem dX3_endRound_58 : decode cX3_endRound 58 = .ok (.iload_n 1, 1) := by decide +kernel
theorem dX3_endRound_59 : decode cX3_endRound 59 = .ok (.iaload, 1) := by decide +kernel
theorem dX3_endRound_60 : decode cX3_endRound 60 = .ok (.aload_n 0, 1) := by decide +kernel
theorem dX3_endRound_61 : decode cX3_endRound 61 = .ok (.iconst (-1), 1) := by decide +kernel
theorem dX3_endRound_62 : decode cX3_endRound 62 = .ok (.invokevirtual 103, 3) := by decide +kernel
theorem dX3_endRound_65 : decode cX3_endRound 65 = .ok (.iadd, 1) := by decide +kernel
theorem dX3_endRound_66 : decode cX3_endRound 66 = .ok (.bipush 60, 2) := by decide +kernel
theorem dX3_endRound_68 : decode cX3_endRound 68 = .ok (.if_icmp .gt 7, 3) := by decide +kernel
theorem dX3_endRound_71 : decode cX3_endRound 71 = .ok (.iconst 1, 1) := by decide +kernel
theorem dX3_endRound_72 : decode cX3_endRound 72 = .ok (.goto 4, 3) := by decide +kernel
theorem dX3_endRound_75 : decode cX3_endRound 75 = .ok (.iconst 0, 1) := by decide +kernel
theorem dX3_endRound_76 : decode cX3_endRound 76 = .ok (.istore_n 2, 1) := by decide +kernel
theorem dX3_endRound_77 : decode cX3_endRound 77 = .ok (.aload_n 0, 1) := by decide +kernel
theorem dX3_endRound_78 : decode cX3_endRound 78 = .ok (.iload_n 2, 1) := by decide +kernel
theorem dX3_endRound_79 : decode cX3_endRound 79 = .ok (.ifCond .eq 7, 3) := by decide +kernel
theorem dX3_endRound_82 : decode cX3_endRound 82 = .ok (.iconst 0, 1) := by decide +kernel
theorem dX3_endRound_83 : decode cX3_endRound 83 = .ok (.goto 4, 3) := by decide +kernel
theorem dX3_endRound_86 : decode cX3_endRound 86 = .ok (.iconst 3, 1) := by decide +kernel
theorem dX3_endRound_87 : decode cX3_endRound 87 = .ok (.putfield 48, 3) := by decide +kernel
theorem dX3_endRound_90 : decode cX3_endRound 90 = .ok (.aload_n 0, 1) := by decide +kernel
theorem dX3_endRound_91 : decode cX3_endRound 91 = .ok (.getfield 48, 3) := by decide +kernel
theorem dX3_endRound_94 : decode cX3_endRound 94 = .ok (.ifCond .le 5, 3) := by decide +kernel
theorem dX3_endRound_97 : decode cX3_endRound 97 = .ok (.iconst (-1), 1) := by decide +kernel
theorem dX3_endRound_98 : decode cX3_endRound 98 = .ok (.ireturn, 1) := by decide +kernel
theorem dX3_endRound_99 : decode cX3_endRound 99 = .ok (.aload_n 0, 1) := by decide +kernel
theorem dX3_endRound_100 : decode cX3_endRound 100 = .ok (.getfield 28, 3) := by decide +kernel
theorem dX3_endRound_103 : decode cX3_endRound 103 = .ok (.iload_n 1, 1) := by decide +kernel
theorem dX3_endRound_104 : decode cX3_endRound 104 = .ok (.dup2, 1) := by decide +kernel
theorem dX3_endRound_105 : decode cX3_endRound 105 = .ok (.iaload, 1) := by decide +kernel
theorem dX3_endRound_106 : decode cX3_endRound 106 = .ok (.aload_n 0, 1) := by decide +kernel
theorem dX3_endRound_107 : decode cX3_endRound 107 = .ok (.iconst (-1), 1) := by decide +kernel
theorem dX3_endRound_108 : decode cX3_endRound 108 = .ok (.invokevirtual 103, 3) := by decide +kernel
theorem dX3_endRound_111 : decode cX3_endRound 111 = .ok (.iadd, 1) := by decide +kernel
theorem dX3_endRound_112 : decode cX3_endRound 112 = .ok (.iastore, 1) := by decide +kernel
theorem dX3_endRound_113 : decode cX3_endRound 113 = .ok (.iconst 0, 1) := by decide +kernel
theorem dX3_endRound_114 : decode cX3_endRound 114 = .ok (.istore_n 3, 1) := by decide +kernel
theorem dX3_endRound_115 : decode cX3_endRound 115 = .ok (.iload_n 3, 1) := by decide +kernel
theorem dX3_endRound_116 : decode cX3_endRound 116 = .ok (.aload_n 0, 1) := by decide +kernel
theorem dX3_endRound_117 : decode cX3_endRound 117 = .ok (.getfield 94, 3) := by decide +kernel
theorem dX3_endRound_120 : decode cX3_endRound 120 = .ok (.if_icmp .ge 35, 3) := by decide +kernel
theorem dX3_endRound_123 : decode cX3_endRound 123 = .ok (.aload_n 0, 1) := by decide +kernel
theorem dX3_endRound_124 : decode cX3_endRound 124 = .ok (.getfield 45, 3) := by decide +kernel
theorem dX3_endRound_127 : decode cX3_endRound 127 = .ok (.iload_n 3, 1) := by decide +kernel
theorem dX3_endRound_128 : decode cX3_endRound 128 = .ok (.aload_n 0, 1) := by decide +kernel
theorem dX3_endRound_129 : decode cX3_endRound 129 = .ok (.getfield 45, 3) := by decide +kernel
theorem dX3_endRound_132 : decode cX3_endRound 132 = .ok (.iload_n 3, 1) := by decide +kernel
theorem dX3_endRound_133 : decode cX3_endRound 133 = .ok (.iaload, 1) := by decide +kernel
theorem dX3_endRound_134 : decode cX3_endRound 134 = .ok (.iconst (-1), 1) := by decide +kernel
theorem dX3_endRound_135 : decode cX3_endRound 135 = .ok (.if_icmp .ne 7, 3) := by decide +kernel
theorem dX3_endRound_138 : decode cX3_endRound 138 = .ok (.iload_n 1, 1) := by decide +kernel
theorem dX3_endRound_139 : decode cX3_endRound 139 = .ok (.goto 9, 3) := by decide +kernel
theorem dX3_endRound_142 : decode cX3_endRound 142 = .ok (.aload_n 0, 1) := by decide +kernel
theorem dX3_endRound_143 : decode cX3_endRound 143 = .ok (.getfield 45, 3) := by decide +kernel
theorem dX3_endRound_146 : decode cX3_endRound 146 = .ok (.iload_n 3, 1) := by decide +kernel
theorem dX3_endRound_147 : decode cX3_endRound 147 = .ok (.iaload, 1) := by decide +kernel
theorem dX3_endRound_148 : decode cX3_endRound 148 = .ok (.iastore, 1) := by decide +kernel
theorem dX3_endRound_149 : decode cX3_endRound 149 = .ok (.iinc 3 1, 3) := by decide +kernel
theorem dX3_endRound_152 : decode cX3_endRound 152 = .ok (.goto (-37), 3) := by decide +kernel
theorem dX3_endRound_155 : decode cX3_endRound 155 = .ok (.aload_n 0, 1) := by decide +kernel
theorem dX3_endRound_156 : decode cX3_endRound 156 = .ok (.getfield 25, 3) := by decide +kernel
theorem dX3_endRound_159 : decode cX3_endRound 159 = .ok (.iload_n 1, 1) := by decide +kernel
theorem dX3_endRound_160 : decode cX3_endRound 160 = .ok (.dup2, 1) := by decide +kernel
theorem dX3_endRound_161 : decode cX3_endRound 161 = .ok (.iaload, 1) := by decide +kernel
theorem dX3_endRound_162 : decode cX3_endRound 162 = .ok (.aload_n 0, 1) := by decide +kernel
theorem dX3_endRound_163 : decode cX3_endRound 163 = .ok (.getfield 97, 3) := by decide +kernel
theorem dX3_endRound_166 : decode cX3_endRound 166 = .ok (.iadd, 1) := by decide +kernel
theorem dX3_endRound_167 : decode cX3_endRound 167 = .ok (.iastore, 1) := by decide +kernel
theorem dX3_endRound_168 : decode cX3_endRound 168 = .ok (.aload_n 0, 1) := by decide +kernel
theorem dX3_endRound_169 : decode cX3_endRound 169 = .ok (.iconst 0, 1) := by decide +kernel
theorem dX3_endRound_170 : decode cX3_endRound 170 = .ok (.putfield 97, 3) := by decide +kernel
theorem dX3_endRound_173 : decode cX3_endRound 173 = .ok (.aload_n 0, 1) := by decide +kernel
theorem dX3_endRound_174 : decode cX3_endRound 174 = .ok (.iconst 0, 1) := by decide +kernel
theorem dX3_endRound_175 : decode cX3_endRound 175 = .ok (.putfield 87, 3) := by decide +kernel
theorem dX3_endRound_178 : decode cX3_endRound 178 = .ok (.aload_n 0, 1) := by decide +kernel
theorem dX3_endRound_179 : decode cX3_endRound 179 = .ok (.getfield 25, 3) := by decide +kernel
theorem dX3_endRound_182 : decode cX3_endRound 182 = .ok (.iload_n 1, 1) := by decide +kernel
theorem dX3_endRound_183 : decode cX3_endRound 183 = .ok (.iaload, 1) := by decide +kernel
theorem dX3_endRound_184 : decode cX3_endRound 184 = .ok (.ireturn, 1) := by decide +kernel
theorem dX3_inTanker_0 : decode cX3_inTanker 0 = .ok (.aload_n 0, 1) := by decide +kernel
theorem dX3_inTanker_1 : decode cX3_inTanker 1 = .ok (.iconst 0, 1) := by decide +kernel
theorem dX3_inTanker_2 : decode cX3_inTanker 2 = .ok (.putfield 48, 3) := by decide +kernel
theorem dX3_inTanker_5 : decode cX3_inTanker 5 = .ok (.aload_n 0, 1) := by decide +kernel
theorem dX3_inTanker_6 : decode cX3_inTanker 6 = .ok (.getfield 97, 3) := by decide +kernel
theorem dX3_inTanker_9 : decode cX3_inTanker 9 = .ok (.ireturn, 1) := by decide +kernel
theorem dX3_inVat_0 : decode cX3_inVat 0 = .ok (.aload_n 0, 1) := by decide +kernel
theorem dX3_inVat_1 : decode cX3_inVat 1 = .ok (.aload_n 0, 1) := by decide +kernel
theorem dX3_inVat_2 : decode cX3_inVat 2 = .ok (.iload_n 1, 1) := by decide +kernel
theorem dX3_inVat_3 : decode cX3_inVat 3 = .ok (.invokevirtual 100, 3) := by decide +kernel
theorem dX3_inVat_6 : decode cX3_inVat 6 = .ok (.ifCond .eq 7, 3) := by decide +kernel
theorem dX3_inVat_9 : decode cX3_inVat 9 = .ok (.iconst 0, 1) := by decide +kernel
theorem dX3_inVat_10 : decode cX3_inVat 10 = .ok (.goto 4, 3) := by decide +kernel
theorem dX3_inVat_13 : decode cX3_inVat 13 = .ok (.iconst 1, 1) := by decide +kernel
theorem dX3_inVat_14 : decode cX3_inVat 14 = .ok (.putfield 48, 3) := by decide +kernel
theorem dX3_inVat_17 : decode cX3_inVat 17 = .ok (.aload_n 0, 1) := by decide +kernel
theorem dX3_inVat_18 : decode cX3_inVat 18 = .ok (.getfield 48, 3) := by decide +kernel
theorem dX3_inVat_21 : decode cX3_inVat 21 = .ok (.ifCond .ne 12, 3) := by decide +kernel
theorem dX3_inVat_24 : decode cX3_inVat 24 = .ok (.aload_n 0, 1) := by decide +kernel
theorem dX3_inVat_25 : decode cX3_inVat 25 = .ok (.getfield 25, 3) := by decide +kernel
theorem dX3_inVat_28 : decode cX3_inVat 28 = .ok (.iload_n 1, 1) := by decide +kernel
theorem dX3_inVat_29 : decode cX3_inVat 29 = .ok (.iaload, 1) := by decide +kernel
theorem dX3_inVat_30 : decode cX3_inVat 30 = .ok (.goto 4, 3) := by decide +kernel
theorem dX3_inVat_33 : decode cX3_inVat 33 = .ok (.iconst (-1), 1) := by decide +kernel
theorem dX3_inVat_34 : decode cX3_inVat 34 = .ok (.ireturn, 1) := by decide +kernel
theorem dX3_bestVat_0 : decode cX3_bestVat 0 = .ok (.iconst (-1), 1) := by decide +kernel
theorem dX3_bestVat_1 : decode cX3_bestVat 1 = .ok (.istore_n 1, 1) := by decide +kernel
theorem dX3_bestVat_2 : decode cX3_bestVat 2 = .ok (.iconst 0, 1) := by decide +kernel
theorem dX3_bestVat_3 : decode cX3_bestVat 3 = .ok (.istore_n 2, 1) := by decide +kernel
theorem dX3_bestVat_4 : decode cX3_bestVat 4 = .ok (.iload_n 2, 1) := by decide +kernel
theorem dX3_bestVat_5 : decode cX3_bestVat 5 = .ok (.aload_n 0, 1) := by decide +kernel
theorem dX3_bestVat_6 : decode cX3_bestVat 6 = .ok (.getfield 84, 3) := by decide +kernel
theorem dX3_bestVat_9 : decode cX3_bestVat 9 = .ok (.if_icmp .ge 71, 3) := by decide +kernel
theorem dX3_bestVat_12 : decode cX3_bestVat 12 = .ok (.aload_n 0, 1) := by decide +kernel
theorem dX3_bestVat_13 : decode cX3_bestVat 13 = .ok (.getfield 22, 3) := by decide +kernel
theorem dX3_bestVat_16 : decode cX3_bestVat 16 = .ok (.iload_n 2, 1) := by decide +kernel
theorem dX3_bestVat_17 : decode cX3_bestVat 17 = .ok (.iaload, 1) := by decide +kernel
theorem dX3_bestVat_18 : decode cX3_bestVat 18 = .ok (.aload_n 0, 1) := by decide +kernel
theorem dX3_bestVat_19 : decode cX3_bestVat 19 = .ok (.getfield 25, 3) := by decide +kernel
theorem dX3_bestVat_22 : decode cX3_bestVat 22 = .ok (.iload_n 2, 1) := by decide +kernel
theorem dX3_bestVat_23 : decode cX3_bestVat 23 = .ok (.iaload, 1) := by decide +kernel
theorem dX3_bestVat_24 : decode cX3_bestVat 24 = .ok (.isub, 1) := by decide +kernel
theorem dX3_bestVat_25 : decode cX3_bestVat 25 = .ok (.istore_n 3, 1) := by decide +kernel
theorem dX3_bestVat_26 : decode cX3_bestVat 26 = .ok (.iload_n 3, 1) := by decide +kernel
theorem dX3_bestVat_27 : decode cX3_bestVat 27 = .ok (.aload_n 0, 1) := by decide +kernel
theorem dX3_bestVat_28 : decode cX3_bestVat 28 = .ok (.getfield 97, 3) := by decide +kernel
theorem dX3_bestVat_31 : decode cX3_bestVat 31 = .ok (.if_icmp .lt 29, 3) := by decide +kernel
theorem dX3_bestVat_34 : decode cX3_bestVat 34 = .ok (.iload_n 1, 1) := by decide +kernel
theorem dX3_bestVat_35 : decode cX3_bestVat 35 = .ok (.iconst (-1), 1) := by decide +kernel
theorem dX3_bestVat_36 : decode cX3_bestVat 36 = .ok (.if_icmp .eq 20, 3) := by decide +kernel
theorem dX3_bestVat_39 : decode cX3_bestVat 39 = .ok (.iload_n 3, 1) := by decide +kernel
theorem dX3_bestVat_40 : decode cX3_bestVat 40 = .ok (.aload_n 0, 1) := by decide +kernel
theorem dX3_bestVat_41 : decode cX3_bestVat 41 = .ok (.getfield 22, 3) := by decide +kernel
theorem dX3_bestVat_44 : decode cX3_bestVat 44 = .ok (.iload_n 1, 1) := by decide +kernel
theorem dX3_bestVat_45 : decode cX3_bestVat 45 = .ok (.iaload, 1) := by decide +kernel
theorem dX3_bestVat_46 : decode cX3_bestVat 46 = .ok (.aload_n 0, 1) := by decide +kernel
theorem dX3_bestVat_47 : decode cX3_bestVat 47 = .ok (.getfield 25, 3) := by decide +kernel
theorem dX3_bestVat_50 : decode cX3_bestVat 50 = .ok (.iload_n 1, 1) := by decide +kernel
theorem dX3_bestVat_51 : decode cX3_bestVat 51 = .ok (.iaload, 1) := by decide +kernel
theorem dX3_bestVat_52 : decode cX3_bestVat 52 = .ok (.isub, 1) := by decide +kernel
theorem dX3_bestVat_53 : decode cX3_bestVat 53 = .ok (.if_icmp .ge 7, 3) := by decide +kernel
theorem dX3_bestVat_56 : decode cX3_bestVat 56 = .ok (.iconst 1, 1) := by decide +kernel
theorem dX3_bestVat_57 : decode cX3_bestVat 57 = .ok (.goto 4, 3) := by decide +kernel
theorem dX3_bestVat_60 : decode cX3_bestVat 60 = .ok (.iconst 0, 1) := by decide +kernel
theorem dX3_bestVat_61 : decode cX3_bestVat 61 = .ok (.istore 4, 2) := by decide +kernel
theorem dX3_bestVat_63 : decode cX3_bestVat 63 = .ok (.iload 4, 2) := by decide +kernel
theorem dX3_bestVat_65 : decode cX3_bestVat 65 = .ok (.ifCond .eq 7, 3) := by decide +kernel
theorem dX3_bestVat_68 : decode cX3_bestVat 68 = .ok (.iload_n 2, 1) := by decide +kernel
theorem dX3_bestVat_69 : decode cX3_bestVat 69 = .ok (.goto 4, 3) := by decide +kernel
theorem dX3_bestVat_72 : decode cX3_bestVat 72 = .ok (.iload_n 1, 1) := by decide +kernel
theorem dX3_bestVat_73 : decode cX3_bestVat 73 = .ok (.istore_n 1, 1) := by decide +kernel
theorem dX3_bestVat_74 : decode cX3_bestVat 74 = .ok (.iinc 2 1, 3) := by decide +kernel
theorem dX3_bestVat_77 : decode cX3_bestVat 77 = .ok (.goto (-73), 3) := by decide +kernel
theorem dX3_bestVat_80 : decode cX3_bestVat 80 = .ok (.aload_n 0, 1) := by decide +kernel
theorem dX3_bestVat_81 : decode cX3_bestVat 81 = .ok (.iload_n 1, 1) := by decide +kernel
theorem dX3_bestVat_82 : decode cX3_bestVat 82 = .ok (.iconst (-1), 1) := by decide +kernel
theorem dX3_bestVat_83 : decode cX3_bestVat 83 = .ok (.if_icmp .ne 7, 3) := by decide +kernel
theorem dX3_bestVat_86 : decode cX3_bestVat 86 = .ok (.iconst 1, 1) := by decide +kernel
theorem dX3_bestVat_87 : decode cX3_bestVat 87 = .ok (.goto 4, 3) := by decide +kernel
theorem dX3_bestVat_90 : decode cX3_bestVat 90 = .ok (.iconst 0, 1) := by decide +kernel
theorem dX3_bestVat_91 : decode cX3_bestVat 91 = .ok (.putfield 48, 3) := by decide +kernel
theorem dX3_bestVat_94 : decode cX3_bestVat 94 = .ok (.iload_n 1, 1) := by decide +kernel
theorem dX3_bestVat_95 : decode cX3_bestVat 95 = .ok (.ireturn, 1) := by decide +kernel
theorem dX3_close_0 : decode cX3_close 0 = .ok (.aload_n 0, 1) := by decide +kernel
theorem dX3_close_1 : decode cX3_close 1 = .ok (.aload_n 0, 1) := by decide +kernel
theorem dX3_close_2 : decode cX3_close 2 = .ok (.iload_n 1, 1) := by decide +kernel
theorem dX3_close_3 : decode cX3_close 3 = .ok (.invokevirtual 100, 3) := by decide +kernel
theorem dX3_close_6 : decode cX3_close 6 = .ok (.ifCond .ne 7, 3) := by decide +kernel
theorem dX3_close_9 : decode cX3_close 9 = .ok (.iconst 1, 1) := by decide +kernel
theorem dX3_close_10 : decode cX3_close 10 = .ok (.goto 30, 3) := by decide +kernel
theorem dX3_close_13 : decode cX3_close 13 = .ok (.aload_n 0, 1) := by decide +kernel
theorem dX3_close_14 : decode cX3_close 14 = .ok (.getfield 25, 3) := by decide +kernel
theorem dX3_close_17 : decode cX3_close 17 = .ok (.iload_n 1, 1) := by decide +kernel
theorem dX3_close_18 : decode cX3_close 18 = .ok (.iaload, 1) := by decide +kernel
theorem dX3_close_19 : decode cX3_close 19 = .ok (.ifCond .ne 7, 3) := by decide +kernel
theorem dX3_close_22 : decode cX3_close 22 = .ok (.iconst 2, 1) := by decide +kernel
theorem dX3_close_23 : decode cX3_close 23 = .ok (.goto 17, 3) := by decide +kernel
theorem dX3_close_26 : decode cX3_close 26 = .ok (.aload_n 0, 1) := by decide +kernel
theorem dX3_close_27 : decode cX3_close 27 = .ok (.getfield 107, 3) := by decide +kernel
theorem dX3_close_30 : decode cX3_close 30 = .ok (.bipush 20, 2) := by decide +kernel
theorem dX3_close_32 : decode cX3_close 32 = .ok (.if_icmp .ne 7, 3) := by decide +kernel
theorem dX3_close_35 : decode cX3_close 35 = .ok (.iconst 3, 1) := by decide +kernel
theorem dX3_close_36 : decode cX3_close 36 = .ok (.goto 4, 3) := by decide +kernel
theorem dX3_close_39 : decode cX3_close 39 = .ok (.iconst 0, 1) := by decide +kernel
theorem dX3_close_40 : decode cX3_close 40 = .ok (.putfield 48, 3) := by decide +kernel
theorem dX3_close_43 : decode cX3_close 43 = .ok (.aload_n 0, 1) := by decide +kernel
theorem dX3_close_44 : decode cX3_close 44 = .ok (.getfield 48, 3) := by decide +kernel
theorem dX3_close_47 : decode cX3_close 47 = .ok (.ifCond .le 5, 3) := by decide +kernel
theorem dX3_close_50 : decode cX3_close 50 = .ok (.iconst (-1), 1) := by decide +kernel
theorem dX3_close_51 : decode cX3_close 51 = .ok (.ireturn, 1) := by decide +kernel
theorem dX3_close_52 : decode cX3_close 52 = .ok (.iconst 0, 1) := by decide +kernel
theorem dX3_close_53 : decode cX3_close 53 = .ok (.istore_n 2, 1) := by decide +kernel
theorem dX3_close_54 : decode cX3_close 54 = .ok (.iload_n 2, 1) := by decide +kernel
theorem dX3_close_55 : decode cX3_close 55 = .ok (.aload_n 0, 1) := by decide +kernel
theorem dX3_close_56 : decode cX3_close 56 = .ok (.getfield 94, 3) := by decide +kernel
theorem dX3_close_59 : decode cX3_close 59 = .ok (.if_icmp .ge 41, 3) := by decide +kernel
theorem dX3_close_62 : decode cX3_close 62 = .ok (.aload_n 0, 1) := by decide +kernel
theorem dX3_close_63 : decode cX3_close 63 = .ok (.getfield 45, 3) := by decide +kernel
theorem dX3_close_66 : decode cX3_close 66 = .ok (.iload_n 2, 1) := by decide +kernel
theorem dX3_close_67 : decode cX3_close 67 = .ok (.aload_n 0, 1) := by decide +kernel
theorem dX3_close_68 : decode cX3_close 68 = .ok (.getfield 45, 3) := by decide +kernel
theorem dX3_close_71 : decode cX3_close 71 = .ok (.iload_n 2, 1) := by decide +kernel
theorem dX3_close_72 : decode cX3_close 72 = .ok (.iaload, 1) := by decide +kernel
theorem dX3_close_73 : decode cX3_close 73 = .ok (.iload_n 1, 1) := by decide +kernel
theorem dX3_close_74 : decode cX3_close 74 = .ok (.if_icmp .ne 13, 3) := by decide +kernel
theorem dX3_close_77 : decode cX3_close 77 = .ok (.bipush 10, 2) := by decide +kernel
theorem dX3_close_79 : decode cX3_close 79 = .ok (.aload_n 0, 1) := by decide +kernel
theorem dX3_close_80 : decode cX3_close 80 = .ok (.getfield 107, 3) := by decide +kernel
theorem dX3_close_83 : decode cX3_close 83 = .ok (.iadd, 1) := by decide +kernel
theorem dX3_close_84 : decode cX3_close 84 = .ok (.goto 9, 3) := by decide +kernel
theorem dX3_close_87 : decode cX3_close 87 = .ok (.aload_n 0, 1) := by decide +kernel
theorem dX3_close_88 : decode cX3_close 88 = .ok (.getfield 45, 3) := by decide +kernel
theorem dX3_close_91 : decode cX3_close 91 = .ok (.iload_n 2, 1) := by decide +kernel
theorem dX3_close_92 : decode cX3_close 92 = .ok (.iaload, 1) := by decide +kernel
theorem dX3_close_93 : decode cX3_close 93 = .ok (.iastore, 1) := by decide +kernel
theorem dX3_close_94 : decode cX3_close 94 = .ok (.iinc 2 1, 3) := by decide +kernel
theorem dX3_close_97 : decode cX3_close 97 = .ok (.goto (-43), 3) := by decide +kernel
theorem dX3_close_100 : decode cX3_close 100 = .ok (.aload_n 0, 1) := by decide +kernel
theorem dX3_close_101 : decode cX3_close 101 = .ok (.getfield 25, 3) := by decide +kernel
theorem dX3_close_104 : decode cX3_close 104 = .ok (.iload_n 1, 1) := by decide +kernel
theorem dX3_close_105 : decode cX3_close 105 = .ok (.iconst 0, 1) := by decide +kernel
theorem dX3_close_106 : decode cX3_close 106 = .ok (.iastore, 1) := by decide +kernel
theorem dX3_close_107 : decode cX3_close 107 = .ok (.aload_n 0, 1) := by decide +kernel
theorem dX3_close_108 : decode cX3_close 108 = .ok (.getfield 28, 3) := by decide +kernel
theorem dX3_close_111 : decode cX3_close 111 = .ok (.iload_n 1, 1) := by decide +kernel
theorem dX3_close_112 : decode cX3_close 112 = .ok (.iconst 0, 1) := by decide +kernel
theorem dX3_close_113 : decode cX3_close 113 = .ok (.iastore, 1) := by decide +kernel
theorem dX3_close_114 : decode cX3_close 114 = .ok (.aload_n 0, 1) := by decide +kernel
theorem dX3_close_115 : decode cX3_close 115 = .ok (.dup, 1) := by decide +kernel
theorem dX3_close_116 : decode cX3_close 116 = .ok (.getfield 107, 3) := by decide +kernel
theorem dX3_close_119 : decode cX3_close 119 = .ok (.iconst 1, 1) := by decide +kernel
theorem dX3_close_120 : decode cX3_close 120 = .ok (.iadd, 1) := by decide +kernel
theorem dX3_close_121 : decode cX3_close 121 = .ok (.putfield 107, 3) := by decide +kernel
theorem dX3_close_124 : decode cX3_close 124 = .ok (.aload_n 0, 1) := by decide +kernel
theorem dX3_close_125 : decode cX3_close 125 = .ok (.getfield 107, 3) := by decide +kernel
theorem dX3_close_128 : decode cX3_close 128 = .ok (.iconst 1, 1) := by decide +kernel
theorem dX3_close_129 : decode cX3_close 129 = .ok (.isub, 1) := by decide +kernel
theorem dX3_close_130 : decode cX3_close 130 = .ok (.ireturn, 1) := by decide +kernel
theorem dX3_samples_0 : decode cX3_samples 0 = .ok (.aload_n 0, 1) := by decide +kernel
theorem dX3_samples_1 : decode cX3_samples 1 = .ok (.iconst 0, 1) := by decide +kernel
theorem dX3_samples_2 : decode cX3_samples 2 = .ok (.putfield 48, 3) := by decide +kernel
theorem dX3_samples_5 : decode cX3_samples 5 = .ok (.aload_n 0, 1) := by decide +kernel
theorem dX3_samples_6 : decode cX3_samples 6 = .ok (.getfield 94, 3) := by decide +kernel
theorem dX3_samples_9 : decode cX3_samples 9 = .ok (.ireturn, 1) := by decide +kernel
theorem dX3_isSample_0 : decode cX3_isSample 0 = .ok (.aload_n 0, 1) := by decide +kernel
theorem dX3_isSample_1 : decode cX3_isSample 1 = .ok (.iload_n 1, 1) := by decide +kernel
theorem dX3_isSample_2 : decode cX3_isSample 2 = .ok (.i2l, 1) := by decide +kernel
theorem dX3_isSample_3 : decode cX3_isSample 3 = .ok (.lconst 0, 1) := by decide +kernel
theorem dX3_isSample_4 : decode cX3_isSample 4 = .ok (.aload_n 0, 1) := by decide +kernel
theorem dX3_isSample_5 : decode cX3_isSample 5 = .ok (.getfield 94, 3) := by decide +kernel
theorem dX3_isSample_8 : decode cX3_isSample 8 = .ok (.iconst 1, 1) := by decide +kernel
theorem dX3_isSample_9 : decode cX3_isSample 9 = .ok (.isub, 1) := by decide +kernel
theorem dX3_isSample_10 : decode cX3_isSample 10 = .ok (.i2l, 1) := by decide +kernel
theorem dX3_isSample_11 : decode cX3_isSample 11 = .ok (.invokestatic 56, 3) := by decide +kernel
theorem dX3_isSample_14 : decode cX3_isSample 14 = .ok (.ifCond .eq 7, 3) := by decide +kernel
theorem dX3_isSample_17 : decode cX3_isSample 17 = .ok (.iconst 0, 1) := by decide +kernel
theorem dX3_isSample_18 : decode cX3_isSample 18 = .ok (.goto 4, 3) := by decide +kernel
theorem dX3_isSample_21 : decode cX3_isSample 21 = .ok (.iconst 1, 1) := by decide +kernel
theorem dX3_isSample_22 : decode cX3_isSample 22 = .ok (.putfield 48, 3) := by decide +kernel
theorem dX3_isSample_25 : decode cX3_isSample 25 = .ok (.aload_n 0, 1) := by decide +kernel
theorem dX3_isSample_26 : decode cX3_isSample 26 = .ok (.getfield 48, 3) := by decide +kernel
theorem dX3_isSample_29 : decode cX3_isSample 29 = .ok (.ifCond .ne 7, 3) := by decide +kernel
theorem dX3_isSample_32 : decode cX3_isSample 32 = .ok (.iconst 1, 1) := by decide +kernel
theorem dX3_isSample_33 : decode cX3_isSample 33 = .ok (.goto 4, 3) := by decide +kernel
theorem dX3_isSample_36 : decode cX3_isSample 36 = .ok (.iconst 0, 1) := by decide +kernel
theorem dX3_isSample_37 : decode cX3_isSample 37 = .ok (.ireturn, 1) := by decide +kernel
theorem dX3_farmOf_0 : decode cX3_farmOf 0 = .ok (.aload_n 0, 1) := by decide +kernel
theorem dX3_farmOf_1 : decode cX3_farmOf 1 = .ok (.iload_n 1, 1) := by decide +kernel
theorem dX3_farmOf_2 : decode cX3_farmOf 2 = .ok (.invokevirtual 110, 3) := by decide +kernel
theorem dX3_farmOf_5 : decode cX3_farmOf 5 = .ok (.ifCond .eq 12, 3) := by decide +kernel
theorem dX3_farmOf_8 : decode cX3_farmOf 8 = .ok (.aload_n 0, 1) := by decide +kernel
theorem dX3_farmOf_9 : decode cX3_farmOf 9 = .ok (.getfield 35, 3) := by decide +kernel
theorem dX3_farmOf_12 : decode cX3_farmOf 12 = .ok (.iload_n 1, 1) := by decide +kernel
theorem dX3_farmOf_13 : decode cX3_farmOf 13 = .ok (.iaload, 1) := by decide +kernel
theorem dX3_farmOf_14 : decode cX3_farmOf 14 = .ok (.goto 4, 3) := by decide +kernel
theorem dX3_farmOf_17 : decode cX3_farmOf 17 = .ok (.iconst (-1), 1) := by decide +kernel
theorem dX3_farmOf_18 : decode cX3_farmOf 18 = .ok (.ireturn, 1) := by decide +kernel
theorem dX3_litres_0 : decode cX3_litres 0 = .ok (.aload_n 0, 1) := by decide +kernel
theorem dX3_litres_1 : decode cX3_litres 1 = .ok (.iload_n 1, 1) := by decide +kernel
theorem dX3_litres_2 : decode cX3_litres 2 = .ok (.invokevirtual 110, 3) := by decide +kernel
theorem dX3_litres_5 : decode cX3_litres 5 = .ok (.ifCond .eq 12, 3) := by decide +kernel
theorem dX3_litres_8 : decode cX3_litres 8 = .ok (.aload_n 0, 1) := by decide +kernel
theorem dX3_litres_9 : decode cX3_litres 9 = .ok (.getfield 38, 3) := by decide +kernel
theorem dX3_litres_12 : decode cX3_litres 12 = .ok (.iload_n 1, 1) := by decide +kernel
theorem dX3_litres_13 : decode cX3_litres 13 = .ok (.iaload, 1) := by decide +kernel
theorem dX3_litres_14 : decode cX3_litres 14 = .ok (.goto 4, 3) := by decide +kernel
theorem dX3_litres_17 : decode cX3_litres 17 = .ok (.iconst (-1), 1) := by decide +kernel
theorem dX3_litres_18 : decode cX3_litres 18 = .ok (.ireturn, 1) := by decide +kernel
theorem dX3_grade_0 : decode cX3_grade 0 = .ok (.iload_n 2, 1) := by decide +kernel
theorem dX3_grade_1 : decode cX3_grade 1 = .ok (.bipush 97, 2) := by decide +kernel
theorem dX3_grade_3 : decode cX3_grade 3 = .ok (.if_icmp .eq 21, 3) := by decide +kernel
theorem dX3_grade_6 : decode cX3_grade 6 = .ok (.iload_n 2, 1) := by decide +kernel
theorem dX3_grade_7 : decode cX3_grade 7 = .ok (.bipush 98, 2) := by decide +kernel
theorem dX3_grade_9 : decode cX3_grade 9 = .ok (.if_icmp .eq 15, 3) := by decide +kernel
theorem dX3_grade_12 : decode cX3_grade 12 = .ok (.iload_n 2, 1) := by decide +kernel
theorem dX3_grade_13 : decode cX3_grade 13 = .ok (.bipush 99, 2) := by decide +kernel
theorem dX3_grade_15 : decode cX3_grade 15 = .ok (.if_icmp .eq 9, 3) := by decide +kernel
theorem dX3_grade_18 : decode cX3_grade 18 = .ok (.iload_n 2, 1) := by decide +kernel
theorem dX3_grade_19 : decode cX3_grade 19 = .ok (.bipush 120, 2) := by decide +kernel
theorem dX3_grade_21 : decode cX3_grade 21 = .ok (.if_icmp .ne 7, 3) := by decide +kernel
theorem dX3_grade_24 : decode cX3_grade 24 = .ok (.iconst 1, 1) := by decide +kernel
theorem dX3_grade_25 : decode cX3_grade 25 = .ok (.goto 4, 3) := by decide +kernel
theorem dX3_grade_28 : decode cX3_grade 28 = .ok (.iconst 0, 1) := by decide +kernel
theorem dX3_grade_29 : decode cX3_grade 29 = .ok (.istore_n 3, 1) := by decide +kernel
theorem dX3_grade_30 : decode cX3_grade 30 = .ok (.aload_n 0, 1) := by decide +kernel
theorem dX3_grade_31 : decode cX3_grade 31 = .ok (.iload_n 1, 1) := by decide +kernel
theorem dX3_grade_32 : decode cX3_grade 32 = .ok (.i2l, 1) := by decide +kernel
theorem dX3_grade_33 : decode cX3_grade 33 = .ok (.lconst 0, 1) := by decide +kernel
theorem dX3_grade_34 : decode cX3_grade 34 = .ok (.aload_n 0, 1) := by decide +kernel
theorem dX3_grade_35 : decode cX3_grade 35 = .ok (.getfield 94, 3) := by decide +kernel
theorem dX3_grade_38 : decode cX3_grade 38 = .ok (.iconst 1, 1) := by decide +kernel
theorem dX3_grade_39 : decode cX3_grade 39 = .ok (.isub, 1) := by decide +kernel
theorem dX3_grade_40 : decode cX3_grade 40 = .ok (.i2l, 1) := by decide +kernel
theorem dX3_grade_41 : decode cX3_grade 41 = .ok (.invokestatic 56, 3) := by decide +kernel
theorem dX3_grade_44 : decode cX3_grade 44 = .ok (.ifCond .ne 7, 3) := by decide +kernel
theorem dX3_grade_47 : decode cX3_grade 47 = .ok (.iconst 1, 1) := by decide +kernel
theorem dX3_grade_48 : decode cX3_grade 48 = .ok (.goto 27, 3) := by decide +kernel
theorem dX3_grade_51 : decode cX3_grade 51 = .ok (.iload_n 3, 1) := by decide +kernel
theorem dX3_grade_52 : decode cX3_grade 52 = .ok (.ifCond .ne 7, 3) := by decide +kernel
theorem dX3_grade_55 : decode cX3_grade 55 = .ok (.iconst 2, 1) := by decide +kernel
theorem dX3_grade_56 : decode cX3_grade 56 = .ok (.goto 19, 3) := by decide +kernel
theorem dX3_grade_59 : decode cX3_grade 59 = .ok (.aload_n 0, 1) := by decide +kernel
theorem dX3_grade_60 : decode cX3_grade 60 = .ok (.getfield 41, 3) := by decide +kernel
theorem dX3_grade_63 : decode cX3_grade 63 = .ok (.iload_n 1, 1) := by decide +kernel
theorem dX3_grade_64 : decode cX3_grade 64 = .ok (.caload, 1) := by decide +kernel
theorem dX3_grade_65 : decode cX3_grade 65 = .ok (.bipush 45, 2) := by decide +kernel
theorem dX3_grade_67 : decode cX3_grade 67 = .ok (.if_icmp .eq 7, 3) := by decide +kernel
theorem dX3_grade_70 : decode cX3_grade 70 = .ok (.iconst 3, 1) := by decide +kernel
theorem dX3_grade_71 : decode cX3_grade 71 = .ok (.goto 4, 3) := by decide +kernel
theorem dX3_grade_74 : decode cX3_grade 74 = .ok (.iconst 0, 1) := by decide +kernel
theorem dX3_grade_75 : decode cX3_grade 75 = .ok (.putfield 48, 3) := by decide +kernel
theorem dX3_grade_78 : decode cX3_grade 78 = .ok (.aload_n 0, 1) := by decide +kernel
theorem dX3_grade_79 : decode cX3_grade 79 = .ok (.getfield 48, 3) := by decide +kernel
theorem dX3_grade_82 : decode cX3_grade 82 = .ok (.ifCond .le 5, 3) := by decide +kernel
theorem dX3_grade_85 : decode cX3_grade 85 = .ok (.iconst (-1), 1) := by decide +kernel
theorem dX3_grade_86 : decode cX3_grade 86 = .ok (.ireturn, 1) := by decide +kernel
theorem dX3_grade_87 : decode cX3_grade 87 = .ok (.aload_n 0, 1) := by decide +kernel
theorem dX3_grade_88 : decode cX3_grade 88 = .ok (.getfield 41, 3) := by decide +kernel
theorem dX3_grade_91 : decode cX3_grade 91 = .ok (.iload_n 1, 1) := by decide +kernel
theorem dX3_grade_92 : decode cX3_grade 92 = .ok (.iload_n 2, 1) := by decide +kernel
theorem dX3_grade_93 : decode cX3_grade 93 = .ok (.castore, 1) := by decide +kernel
theorem dX3_grade_94 : decode cX3_grade 94 = .ok (.iconst 0, 1) := by decide +kernel
theorem dX3_grade_95 : decode cX3_grade 95 = .ok (.istore 4, 2) := by decide +kernel
theorem dX3_grade_97 : decode cX3_grade 97 = .ok (.iconst 0, 1) := by decide +kernel
theorem dX3_grade_98 : decode cX3_grade 98 = .ok (.istore 5, 2) := by decide +kernel
theorem dX3_grade_100 : decode cX3_grade 100 = .ok (.iload 5, 2) := by decide +kernel
theorem dX3_grade_102 : decode cX3_grade 102 = .ok (.aload_n 0, 1) := by decide +kernel
theorem dX3_grade_103 : decode cX3_grade 103 = .ok (.getfield 94, 3) := by decide +kernel
theorem dX3_grade_106 : decode cX3_grade 106 = .ok (.if_icmp .ge 31, 3) := by decide +kernel
theorem dX3_grade_109 : decode cX3_grade 109 = .ok (.iload 4, 2) := by decide +kernel
theorem dX3_grade_111 : decode cX3_grade 111 = .ok (.aload_n 0, 1) := by decide +kernel
theorem dX3_grade_112 : decode cX3_grade 112 = .ok (.getfield 41, 3) := by decide +kernel
theorem dX3_grade_115 : decode cX3_grade 115 = .ok (.iload 5, 2) := by decide +kernel
theorem dX3_grade_117 : decode cX3_grade 117 = .ok (.caload, 1) := by decide +kernel
theorem dX3_grade_118 : decode cX3_grade 118 = .ok (.bipush 45, 2) := by decide +kernel
theorem dX3_grade_120 : decode cX3_grade 120 = .ok (.if_icmp .ne 7, 3) := by decide +kernel
theorem dX3_grade_123 : decode cX3_grade 123 = .ok (.iconst 1, 1) := by decide +kernel
theorem dX3_grade_124 : decode cX3_grade 124 = .ok (.goto 4, 3) := by decide +kernel
theorem dX3_grade_127 : decode cX3_grade 127 = .ok (.iconst 0, 1) := by decide +kernel
theorem dX3_grade_128 : decode cX3_grade 128 = .ok (.iadd, 1) := by decide +kernel
theorem dX3_grade_129 : decode cX3_grade 129 = .ok (.istore 4, 2) := by decide +kernel
theorem dX3_grade_131 : decode cX3_grade 131 = .ok (.iinc 5 1, 3) := by decide +kernel
theorem dX3_grade_134 : decode cX3_grade 134 = .ok (.goto (-34), 3) := by decide +kernel
theorem dX3_grade_137 : decode cX3_grade 137 = .ok (.iload 4, 2) := by decide +kernel
theorem dX3_grade_139 : decode cX3_grade 139 = .ok (.ireturn, 1) := by decide +kernel
theorem dX3_gradeOf_0 : decode cX3_gradeOf 0 = .ok (.aload_n 0, 1) := by decide +kernel
theorem dX3_gradeOf_1 : decode cX3_gradeOf 1 = .ok (.iload_n 1, 1) := by decide +kernel
theorem dX3_gradeOf_2 : decode cX3_gradeOf 2 = .ok (.invokevirtual 110, 3) := by decide +kernel
theorem dX3_gradeOf_5 : decode cX3_gradeOf 5 = .ok (.ifCond .eq 12, 3) := by decide +kernel
theorem dX3_gradeOf_8 : decode cX3_gradeOf 8 = .ok (.aload_n 0, 1) := by decide +kernel
theorem dX3_gradeOf_9 : decode cX3_gradeOf 9 = .ok (.getfield 41, 3) := by decide +kernel
theorem dX3_gradeOf_12 : decode cX3_gradeOf 12 = .ok (.iload_n 1, 1) := by decide +kernel
theorem dX3_gradeOf_13 : decode cX3_gradeOf 13 = .ok (.caload, 1) := by decide +kernel
theorem dX3_gradeOf_14 : decode cX3_gradeOf 14 = .ok (.goto 5, 3) := by decide +kernel
theorem dX3_gradeOf_17 : decode cX3_gradeOf 17 = .ok (.bipush 32, 2) := by decide +kernel
theorem dX3_gradeOf_19 : decode cX3_gradeOf 19 = .ok (.ireturn, 1) := by decide +kernel
theorem dX3_batches_0 : decode cX3_batches 0 = .ok (.aload_n 0, 1) := by decide +kernel
theorem dX3_batches_1 : decode cX3_batches 1 = .ok (.iconst 0, 1) := by decide +kernel
theorem dX3_batches_2 : decode cX3_batches 2 = .ok (.putfield 48, 3) := by decide +kernel
theorem dX3_batches_5 : decode cX3_batches 5 = .ok (.aload_n 0, 1) := by decide +kernel
theorem dX3_batches_6 : decode cX3_batches 6 = .ok (.getfield 107, 3) := by decide +kernel
theorem dX3_batches_9 : decode cX3_batches 9 = .ok (.ireturn, 1) := by decide +kernel
theorem dX3_has_0 : decode cX3_has 0 = .ok (.iconst 0, 1) := by decide +kernel
theorem dX3_has_1 : decode cX3_has 1 = .ok (.istore_n 3, 1) := by decide +kernel
theorem dX3_has_2 : decode cX3_has 2 = .ok (.iconst 0, 1) := by decide +kernel
theorem dX3_has_3 : decode cX3_has 3 = .ok (.istore 4, 2) := by decide +kernel
theorem dX3_has_5 : decode cX3_has 5 = .ok (.iload 4, 2) := by decide +kernel
theorem dX3_has_7 : decode cX3_has 7 = .ok (.aload_n 0, 1) := by decide +kernel
theorem dX3_has_8 : decode cX3_has 8 = .ok (.getfield 94, 3) := by decide +kernel
theorem dX3_has_11 : decode cX3_has 11 = .ok (.if_icmp .ge 44, 3) := by decide +kernel
theorem dX3_has_14 : decode cX3_has 14 = .ok (.iload_n 3, 1) := by decide +kernel
theorem dX3_has_15 : decode cX3_has 15 = .ok (.ifCond .ne 28, 3) := by decide +kernel
theorem dX3_has_18 : decode cX3_has 18 = .ok (.aload_n 0, 1) := by decide +kernel
theorem dX3_has_19 : decode cX3_has 19 = .ok (.getfield 45, 3) := by decide +kernel
theorem dX3_has_22 : decode cX3_has 22 = .ok (.iload 4, 2) := by decide +kernel
theorem dX3_has_24 : decode cX3_has 24 = .ok (.iaload, 1) := by decide +kernel
theorem dX3_has_25 : decode cX3_has 25 = .ok (.bipush 10, 2) := by decide +kernel
theorem dX3_has_27 : decode cX3_has 27 = .ok (.iload_n 1, 1) := by decide +kernel
theorem dX3_has_28 : decode cX3_has 28 = .ok (.iadd, 1) := by decide +kernel
theorem dX3_has_29 : decode cX3_has 29 = .ok (.if_icmp .ne 18, 3) := by decide +kernel
theorem dX3_has_32 : decode cX3_has 32 = .ok (.aload_n 0, 1) := by decide +kernel
theorem dX3_has_33 : decode cX3_has 33 = .ok (.getfield 41, 3) := by decide +kernel
theorem dX3_has_36 : decode cX3_has 36 = .ok (.iload 4, 2) := by decide +kernel
theorem dX3_has_38 : decode cX3_has 38 = .ok (.caload, 1) := by decide +kernel
theorem dX3_has_39 : decode cX3_has 39 = .ok (.iload_n 2, 1) := by decide +kernel
theorem dX3_has_40 : decode cX3_has 40 = .ok (.if_icmp .ne 7, 3) := by decide +kernel
theorem dX3_has_43 : decode cX3_has 43 = .ok (.iconst 1, 1) := by decide +kernel
theorem dX3_has_44 : decode cX3_has 44 = .ok (.goto 4, 3) := by decide +kernel
theorem dX3_has_47 : decode cX3_has 47 = .ok (.iconst 0, 1) := by decide +kernel
theorem dX3_has_48 : decode cX3_has 48 = .ok (.istore_n 3, 1) := by decide +kernel
theorem dX3_has_49 : decode cX3_has 49 = .ok (.iinc 4 1, 3) := by decide +kernel
theorem dX3_has_52 : decode cX3_has 52 = .ok (.goto (-47), 3) := by decide +kernel
theorem dX3_has_55 : decode cX3_has 55 = .ok (.iload_n 3, 1) := by decide +kernel
theorem dX3_has_56 : decode cX3_has 56 = .ok (.ireturn, 1) := by decide +kernel
theorem dX3_isBatch_0 : decode cX3_isBatch 0 = .ok (.iload_n 1, 1) := by decide +kernel
theorem dX3_isBatch_1 : decode cX3_isBatch 1 = .ok (.i2l, 1) := by decide +kernel
theorem dX3_isBatch_2 : decode cX3_isBatch 2 = .ok (.lconst 0, 1) := by decide +kernel
theorem dX3_isBatch_3 : decode cX3_isBatch 3 = .ok (.aload_n 0, 1) := by decide +kernel
theorem dX3_isBatch_4 : decode cX3_isBatch 4 = .ok (.getfield 107, 3) := by decide +kernel
theorem dX3_isBatch_7 : decode cX3_isBatch 7 = .ok (.iconst 1, 1) := by decide +kernel
theorem dX3_isBatch_8 : decode cX3_isBatch 8 = .ok (.isub, 1) := by decide +kernel
theorem dX3_isBatch_9 : decode cX3_isBatch 9 = .ok (.i2l, 1) := by decide +kernel
theorem dX3_isBatch_10 : decode cX3_isBatch 10 = .ok (.invokestatic 56, 3) := by decide +kernel
theorem dX3_isBatch_13 : decode cX3_isBatch 13 = .ok (.ireturn, 1) := by decide +kernel
theorem dX3_stateOf_0 : decode cX3_stateOf 0 = .ok (.aload_n 0, 1) := by decide +kernel
theorem dX3_stateOf_1 : decode cX3_stateOf 1 = .ok (.aload_n 0, 1) := by decide +kernel
theorem dX3_stateOf_2 : decode cX3_stateOf 2 = .ok (.iload_n 1, 1) := by decide +kernel
theorem dX3_stateOf_3 : decode cX3_stateOf 3 = .ok (.invokevirtual 113, 3) := by decide +kernel
theorem dX3_stateOf_6 : decode cX3_stateOf 6 = .ok (.ifCond .eq 7, 3) := by decide +kernel
theorem dX3_stateOf_9 : decode cX3_stateOf 9 = .ok (.iconst 0, 1) := by decide +kernel
theorem dX3_stateOf_10 : decode cX3_stateOf 10 = .ok (.goto 4, 3) := by decide +kernel
theorem dX3_stateOf_13 : decode cX3_stateOf 13 = .ok (.iconst 1, 1) := by decide +kernel
theorem dX3_stateOf_14 : decode cX3_stateOf 14 = .ok (.putfield 48, 3) := by decide +kernel
theorem dX3_stateOf_17 : decode cX3_stateOf 17 = .ok (.aload_n 0, 1) := by decide +kernel
theorem dX3_stateOf_18 : decode cX3_stateOf 18 = .ok (.getfield 48, 3) := by decide +kernel
theorem dX3_stateOf_21 : decode cX3_stateOf 21 = .ok (.ifCond .le 8, 3) := by decide +kernel
theorem dX3_stateOf_24 : decode cX3_stateOf 24 = .ok (.bipush 32, 2) := by decide +kernel
theorem dX3_stateOf_26 : decode cX3_stateOf 26 = .ok (.goto 35, 3) := by decide +kernel
theorem dX3_stateOf_29 : decode cX3_stateOf 29 = .ok (.aload_n 0, 1) := by decide +kernel
theorem dX3_stateOf_30 : decode cX3_stateOf 30 = .ok (.iload_n 1, 1) := by decide +kernel
theorem dX3_stateOf_31 : decode cX3_stateOf 31 = .ok (.bipush 120, 2) := by decide +kernel
theorem dX3_stateOf_33 : decode cX3_stateOf 33 = .ok (.invokevirtual 116, 3) := by decide +kernel
theorem dX3_stateOf_36 : decode cX3_stateOf 36 = .ok (.ifCond .eq 8, 3) := by decide +kernel
theorem dX3_stateOf_39 : decode cX3_stateOf 39 = .ok (.bipush 120, 2) := by decide +kernel
theorem dX3_stateOf_41 : decode cX3_stateOf 41 = .ok (.goto 20, 3) := by decide +kernel
theorem dX3_stateOf_44 : decode cX3_stateOf 44 = .ok (.aload_n 0, 1) := by decide +kernel
theorem dX3_stateOf_45 : decode cX3_stateOf 45 = .ok (.iload_n 1, 1) := by decide +kernel
theorem dX3_stateOf_46 : decode cX3_stateOf 46 = .ok (.bipush 45, 2) := by decide +kernel
theorem dX3_stateOf_48 : decode cX3_stateOf 48 = .ok (.invokevirtual 116, 3) := by decide +kernel
theorem dX3_stateOf_51 : decode cX3_stateOf 51 = .ok (.ifCond .eq 8, 3) := by decide +kernel
theorem dX3_stateOf_54 : decode cX3_stateOf 54 = .ok (.bipush 119, 2) := by decide +kernel
theorem dX3_stateOf_56 : decode cX3_stateOf 56 = .ok (.goto 5, 3) := by decide +kernel
theorem dX3_stateOf_59 : decode cX3_stateOf 59 = .ok (.bipush 103, 2) := by decide +kernel
theorem dX3_stateOf_61 : decode cX3_stateOf 61 = .ok (.ireturn, 1) := by decide +kernel
theorem dX3_share_0 : decode cX3_share 0 = .ok (.aload_n 0, 1) := by decide +kernel
theorem dX3_share_1 : decode cX3_share 1 = .ok (.aload_n 0, 1) := by decide +kernel
theorem dX3_share_2 : decode cX3_share 2 = .ok (.iload_n 1, 1) := by decide +kernel
theorem dX3_share_3 : decode cX3_share 3 = .ok (.invokevirtual 113, 3) := by decide +kernel
theorem dX3_share_6 : decode cX3_share 6 = .ok (.ifCond .ne 7, 3) := by decide +kernel
theorem dX3_share_9 : decode cX3_share 9 = .ok (.iconst 1, 1) := by decide +kernel
theorem dX3_share_10 : decode cX3_share 10 = .ok (.goto 4, 3) := by decide +kernel
theorem dX3_share_13 : decode cX3_share 13 = .ok (.iconst 2, 1) := by decide +kernel
theorem dX3_share_14 : decode cX3_share 14 = .ok (.putfield 48, 3) := by decide +kernel
theorem dX3_share_17 : decode cX3_share 17 = .ok (.iconst 0, 1) := by decide +kernel
theorem dX3_share_18 : decode cX3_share 18 = .ok (.istore_n 3, 1) := by decide +kernel
theorem dX3_share_19 : decode cX3_share 19 = .ok (.iconst 0, 1) := by decide +kernel
theorem dX3_share_20 : decode cX3_share 20 = .ok (.istore 4, 2) := by decide +kernel
theorem dX3_share_22 : decode cX3_share 22 = .ok (.iload 4, 2) := by decide +kernel
theorem dX3_share_24 : decode cX3_share 24 = .ok (.aload_n 0, 1) := by decide +kernel
theorem dX3_share_25 : decode cX3_share 25 = .ok (.getfield 94, 3) := by decide +kernel
theorem dX3_share_28 : decode cX3_share 28 = .ok (.if_icmp .ge 47, 3) := by decide +kernel
theorem dX3_share_31 : decode cX3_share 31 = .ok (.aload_n 0, 1) := by decide +kernel
theorem dX3_share_32 : decode cX3_share 32 = .ok (.getfield 48, 3) := by decide +kernel
theorem dX3_share_35 : decode cX3_share 35 = .ok (.iconst 2, 1) := by decide +kernel
theorem dX3_share_36 : decode cX3_share 36 = .ok (.if_icmp .ne 39, 3) := by decide +kernel
theorem dX3_share_39 : decode cX3_share 39 = .ok (.aload_n 0, 1) := by decide +kernel
theorem dX3_share_40 : decode cX3_share 40 = .ok (.getfield 45, 3) := by decide +kernel
theorem dX3_share_43 : decode cX3_share 43 = .ok (.iload 4, 2) := by decide +kernel
theorem dX3_share_45 : decode cX3_share 45 = .ok (.iaload, 1) := by decide +kernel
theorem dX3_share_46 : decode cX3_share 46 = .ok (.bipush 10, 2) := by decide +kernel
theorem dX3_share_48 : decode cX3_share 48 = .ok (.iload_n 1, 1) := by decide +kernel
theorem dX3_share_49 : decode cX3_share 49 = .ok (.iadd, 1) := by decide +kernel
theorem dX3_share_50 : decode cX3_share 50 = .ok (.if_icmp .ne 19, 3) := by decide +kernel
theorem dX3_share_53 : decode cX3_share 53 = .ok (.iload_n 3, 1) := by decide +kernel
theorem dX3_share_54 : decode cX3_share 54 = .ok (.iload_n 2, 1) := by decide +kernel
theorem dX3_share_55 : decode cX3_share 55 = .ok (.if_icmp .ne 11, 3) := by decide +kernel
theorem dX3_share_58 : decode cX3_share 58 = .ok (.aload_n 0, 1) := by decide +kernel
theorem dX3_share_59 : decode cX3_share 59 = .ok (.iconst 0, 1) := by decide +kernel
theorem dX3_share_60 : decode cX3_share 60 = .ok (.putfield 48, 3) := by decide +kernel
theorem dX3_share_63 : decode cX3_share 63 = .ok (.iload 4, 2) := by decide +kernel
theorem dX3_share_65 : decode cX3_share 65 = .ok (.ireturn, 1) := by decide +kernel
theorem dX3_share_66 : decode cX3_share 66 = .ok (.iinc 3 1, 3) := by decide +kernel
theorem dX3_share_69 : decode cX3_share 69 = .ok (.iinc 4 1, 3) := by decide +kernel
theorem dX3_share_72 : decode cX3_share 72 = .ok (.goto (-50), 3) := by decide +kernel
theorem dX3_share_75 : decode cX3_share 75 = .ok (.iconst (-1), 1) := by decide +kernel
theorem dX3_share_76 : decode cX3_share 76 = .ok (.ireturn, 1) := by decide +kernel
theorem dX3_worthOf_0 : decode cX3_worthOf 0 = .ok (.aload_n 0, 1) := by decide +kernel
theorem dX3_worthOf_1 : decode cX3_worthOf 1 = .ok (.getfield 41, 3) := by decide +kernel
theorem dX3_worthOf_4 : decode cX3_worthOf 4 = .ok (.iload_n 1, 1) := by decide +kernel
theorem dX3_worthOf_5 : decode cX3_worthOf 5 = .ok (.caload, 1) := by decide +kernel
theorem dX3_worthOf_6 : decode cX3_worthOf 6 = .ok (.bipush 97, 2) := by decide +kernel
theorem dX3_worthOf_8 : decode cX3_worthOf 8 = .ok (.if_icmp .ne 8, 3) := by decide +kernel
theorem dX3_worthOf_11 : decode cX3_worthOf 11 = .ok (.bipush 40, 2) := by decide +kernel
theorem dX3_worthOf_13 : decode cX3_worthOf 13 = .ok (.goto 36, 3) := by decide +kernel
theorem dX3_worthOf_16 : decode cX3_worthOf 16 = .ok (.aload_n 0, 1) := by decide +kernel
theorem dX3_worthOf_17 : decode cX3_worthOf 17 = .ok (.getfield 41, 3) := by decide +kernel
theorem dX3_worthOf_20 : decode cX3_worthOf 20 = .ok (.iload_n 1, 1) := by decide +kernel
theorem dX3_worthOf_21 : decode cX3_worthOf 21 = .ok (.caload, 1) := by decide +kernel
theorem dX3_worthOf_22 : decode cX3_worthOf 22 = .ok (.bipush 98, 2) := by decide +kernel
theorem dX3_worthOf_24 : decode cX3_worthOf 24 = .ok (.if_icmp .ne 8, 3) := by decide +kernel
theorem dX3_worthOf_27 : decode cX3_worthOf 27 = .ok (.bipush 34, 2) := by decide +kernel
theorem dX3_worthOf_29 : decode cX3_worthOf 29 = .ok (.goto 20, 3) := by decide +kernel
theorem dX3_worthOf_32 : decode cX3_worthOf 32 = .ok (.aload_n 0, 1) := by decide +kernel
theorem dX3_worthOf_33 : decode cX3_worthOf 33 = .ok (.getfield 41, 3) := by decide +kernel
theorem dX3_worthOf_36 : decode cX3_worthOf 36 = .ok (.iload_n 1, 1) := by decide +kernel
theorem dX3_worthOf_37 : decode cX3_worthOf 37 = .ok (.caload, 1) := by decide +kernel
theorem dX3_worthOf_38 : decode cX3_worthOf 38 = .ok (.bipush 99, 2) := by decide +kernel
theorem dX3_worthOf_40 : decode cX3_worthOf 40 = .ok (.if_icmp .ne 8, 3) := by decide +kernel
theorem dX3_worthOf_43 : decode cX3_worthOf 43 = .ok (.bipush 25, 2) := by decide +kernel
theorem dX3_worthOf_45 : decode cX3_worthOf 45 = .ok (.goto 4, 3) := by decide +kernel
theorem dX3_worthOf_48 : decode cX3_worthOf 48 = .ok (.iconst 0, 1) := by decide +kernel
theorem dX3_worthOf_49 : decode cX3_worthOf 49 = .ok (.istore_n 2, 1) := by decide +kernel
theorem dX3_worthOf_50 : decode cX3_worthOf 50 = .ok (.iload_n 2, 1) := by decide +kernel
theorem dX3_worthOf_51 : decode cX3_worthOf 51 = .ok (.aload_n 0, 1) := by decide +kernel
theorem dX3_worthOf_52 : decode cX3_worthOf 52 = .ok (.getfield 38, 3) := by decide +kernel
theorem dX3_worthOf_55 : decode cX3_worthOf 55 = .ok (.iload_n 1, 1) := by decide +kernel
theorem dX3_worthOf_56 : decode cX3_worthOf 56 = .ok (.iaload, 1) := by decide +kernel
theorem dX3_worthOf_57 : decode cX3_worthOf 57 = .ok (.imul, 1) := by decide +kernel
theorem dX3_worthOf_58 : decode cX3_worthOf 58 = .ok (.ireturn, 1) := by decide +kernel
theorem dX3_payOf_0 : decode cX3_payOf 0 = .ok (.aload_n 0, 1) := by decide +kernel
theorem dX3_payOf_1 : decode cX3_payOf 1 = .ok (.getfield 45, 3) := by decide +kernel
theorem dX3_payOf_4 : decode cX3_payOf 4 = .ok (.iload_n 1, 1) := by decide +kernel
theorem dX3_payOf_5 : decode cX3_payOf 5 = .ok (.iaload, 1) := by decide +kernel
theorem dX3_payOf_6 : decode cX3_payOf 6 = .ok (.bipush 10, 2) := by decide +kernel
theorem dX3_payOf_8 : decode cX3_payOf 8 = .ok (.if_icmp .lt 29, 3) := by decide +kernel
theorem dX3_payOf_11 : decode cX3_payOf 11 = .ok (.aload_n 0, 1) := by decide +kernel
theorem dX3_payOf_12 : decode cX3_payOf 12 = .ok (.aload_n 0, 1) := by decide +kernel
theorem dX3_payOf_13 : decode cX3_payOf 13 = .ok (.getfield 45, 3) := by decide +kernel
theorem dX3_payOf_16 : decode cX3_payOf 16 = .ok (.iload_n 1, 1) := by decide +kernel
theorem dX3_payOf_17 : decode cX3_payOf 17 = .ok (.iaload, 1) := by decide +kernel
theorem dX3_payOf_18 : decode cX3_payOf 18 = .ok (.bipush 10, 2) := by decide +kernel
theorem dX3_payOf_20 : decode cX3_payOf 20 = .ok (.isub, 1) := by decide +kernel
theorem dX3_payOf_21 : decode cX3_payOf 21 = .ok (.bipush 120, 2) := by decide +kernel
theorem dX3_payOf_23 : decode cX3_payOf 23 = .ok (.invokevirtual 116, 3) := by decide +kernel
theorem dX3_payOf_26 : decode cX3_payOf 26 = .ok (.ifCond .ne 11, 3) := by decide +kernel
theorem dX3_payOf_29 : decode cX3_payOf 29 = .ok (.aload_n 0, 1) := by decide +kernel
theorem dX3_payOf_30 : decode cX3_payOf 30 = .ok (.iload_n 1, 1) := by decide +kernel
theorem dX3_payOf_31 : decode cX3_payOf 31 = .ok (.invokevirtual 120, 3) := by decide +kernel
theorem dX3_payOf_34 : decode cX3_payOf 34 = .ok (.goto 4, 3) := by decide +kernel
theorem dX3_payOf_37 : decode cX3_payOf 37 = .ok (.iconst 0, 1) := by decide +kernel
theorem dX3_payOf_38 : decode cX3_payOf 38 = .ok (.ireturn, 1) := by decide +kernel
theorem dX3_lossOf_0 : decode cX3_lossOf 0 = .ok (.iconst 0, 1) := by decide +kernel
theorem dX3_lossOf_1 : decode cX3_lossOf 1 = .ok (.istore_n 2, 1) := by decide +kernel
theorem dX3_lossOf_2 : decode cX3_lossOf 2 = .ok (.iconst 0, 1) := by decide +kernel
theorem dX3_lossOf_3 : decode cX3_lossOf 3 = .ok (.istore_n 3, 1) := by decide +kernel
theorem dX3_lossOf_4 : decode cX3_lossOf 4 = .ok (.iload_n 3, 1) := by decide +kernel
theorem dX3_lossOf_5 : decode cX3_lossOf 5 = .ok (.aload_n 0, 1) := by decide +kernel
theorem dX3_lossOf_6 : decode cX3_lossOf 6 = .ok (.getfield 94, 3) := by decide +kernel
theorem dX3_lossOf_9 : decode cX3_lossOf 9 = .ok (.if_icmp .ge 34, 3) := by decide +kernel
theorem dX3_lossOf_12 : decode cX3_lossOf 12 = .ok (.iload_n 2, 1) := by decide +kernel
theorem dX3_lossOf_13 : decode cX3_lossOf 13 = .ok (.aload_n 0, 1) := by decide +kernel
theorem dX3_lossOf_14 : decode cX3_lossOf 14 = .ok (.getfield 45, 3) := by decide +kernel
theorem dX3_lossOf_17 : decode cX3_lossOf 17 = .ok (.iload_n 3, 1) := by decide +kernel
theorem dX3_lossOf_18 : decode cX3_lossOf 18 = .ok (.iaload, 1) := by decide +kernel
theorem dX3_lossOf_19 : decode cX3_lossOf 19 = .ok (.bipush 10, 2) := by decide +kernel
theorem dX3_lossOf_21 : decode cX3_lossOf 21 = .ok (.iload_n 1, 1) := by decide +kernel
theorem dX3_lossOf_22 : decode cX3_lossOf 22 = .ok (.iadd, 1) := by decide +kernel
theorem dX3_lossOf_23 : decode cX3_lossOf 23 = .ok (.if_icmp .ne 11, 3) := by decide +kernel
theorem dX3_lossOf_26 : decode cX3_lossOf 26 = .ok (.aload_n 0, 1) := by decide +kernel
theorem dX3_lossOf_27 : decode cX3_lossOf 27 = .ok (.iload_n 3, 1) := by decide +kernel
theorem dX3_lossOf_28 : decode cX3_lossOf 28 = .ok (.invokevirtual 120, 3) := by decide +kernel
theorem dX3_lossOf_31 : decode cX3_lossOf 31 = .ok (.goto 4, 3) := by decide +kernel
theorem dX3_lossOf_34 : decode cX3_lossOf 34 = .ok (.iconst 0, 1) := by decide +kernel
theorem dX3_lossOf_35 : decode cX3_lossOf 35 = .ok (.iadd, 1) := by decide +kernel
theorem dX3_lossOf_36 : decode cX3_lossOf 36 = .ok (.istore_n 2, 1) := by decide +kernel
theorem dX3_lossOf_37 : decode cX3_lossOf 37 = .ok (.iinc 3 1, 3) := by decide +kernel
theorem dX3_lossOf_40 : decode cX3_lossOf 40 = .ok (.goto (-36), 3) := by decide +kernel
theorem dX3_lossOf_43 : decode cX3_lossOf 43 = .ok (.aload_n 0, 1) := by decide +kernel
theorem dX3_lossOf_44 : decode cX3_lossOf 44 = .ok (.iload_n 1, 1) := by decide +kernel
theorem dX3_lossOf_45 : decode cX3_lossOf 45 = .ok (.bipush 120, 2) := by decide +kernel
theorem dX3_lossOf_47 : decode cX3_lossOf 47 = .ok (.invokevirtual 116, 3) := by decide +kernel
theorem dX3_lossOf_50 : decode cX3_lossOf 50 = .ok (.ifCond .eq 7, 3) := by decide +kernel
theorem dX3_lossOf_53 : decode cX3_lossOf 53 = .ok (.iload_n 2, 1) := by decide +kernel
theorem dX3_lossOf_54 : decode cX3_lossOf 54 = .ok (.goto 4, 3) := by decide +kernel
theorem dX3_lossOf_57 : decode cX3_lossOf 57 = .ok (.iconst 0, 1) := by decide +kernel
theorem dX3_lossOf_58 : decode cX3_lossOf 58 = .ok (.ireturn, 1) := by decide +kernel
theorem dX3_blameOf_0 : decode cX3_blameOf 0 = .ok (.aload_n 0, 1) := by decide +kernel
theorem dX3_blameOf_1 : decode cX3_blameOf 1 = .ok (.getfield 45, 3) := by decide +kernel
theorem dX3_blameOf_4 : decode cX3_blameOf 4 = .ok (.iload_n 1, 1) := by decide +kernel
theorem dX3_blameOf_5 : decode cX3_blameOf 5 = .ok (.iaload, 1) := by decide +kernel
theorem dX3_blameOf_6 : decode cX3_blameOf 6 = .ok (.bipush 10, 2) := by decide +kernel
theorem dX3_blameOf_8 : decode cX3_blameOf 8 = .ok (.if_icmp .lt 14, 3) := by decide +kernel
theorem dX3_blameOf_11 : decode cX3_blameOf 11 = .ok (.aload_n 0, 1) := by decide +kernel
theorem dX3_blameOf_12 : decode cX3_blameOf 12 = .ok (.getfield 41, 3) := by decide +kernel
theorem dX3_blameOf_15 : decode cX3_blameOf 15 = .ok (.iload_n 1, 1) := by decide +kernel
theorem dX3_blameOf_16 : decode cX3_blameOf 16 = .ok (.caload, 1) := by decide +kernel
theorem dX3_blameOf_17 : decode cX3_blameOf 17 = .ok (.bipush 120, 2) := by decide +kernel
theorem dX3_blameOf_19 : decode cX3_blameOf 19 = .ok (.if_icmp .eq 5, 3) := by decide +kernel
theorem dX3_blameOf_22 : decode cX3_blameOf 22 = .ok (.iconst 0, 1) := by decide +kernel
theorem dX3_blameOf_23 : decode cX3_blameOf 23 = .ok (.ireturn, 1) := by decide +kernel
theorem dX3_blameOf_24 : decode cX3_blameOf 24 = .ok (.aload_n 0, 1) := by decide +kernel
theorem dX3_blameOf_25 : decode cX3_blameOf 25 = .ok (.getfield 45, 3) := by decide +kernel
theorem dX3_blameOf_28 : decode cX3_blameOf 28 = .ok (.iload_n 1, 1) := by decide +kernel
theorem dX3_blameOf_29 : decode cX3_blameOf 29 = .ok (.iaload, 1) := by decide +kernel
theorem dX3_blameOf_30 : decode cX3_blameOf 30 = .ok (.bipush 10, 2) := by decide +kernel
theorem dX3_blameOf_32 : decode cX3_blameOf 32 = .ok (.isub, 1) := by decide +kernel
theorem dX3_blameOf_33 : decode cX3_blameOf 33 = .ok (.istore_n 2, 1) := by decide +kernel
theorem dX3_blameOf_34 : decode cX3_blameOf 34 = .ok (.aload_n 0, 1) := by decide +kernel
theorem dX3_blameOf_35 : decode cX3_blameOf 35 = .ok (.iload_n 2, 1) := by decide +kernel
theorem dX3_blameOf_36 : decode cX3_blameOf 36 = .ok (.invokevirtual 123, 3) := by decide +kernel
theorem dX3_blameOf_39 : decode cX3_blameOf 39 = .ok (.istore_n 3, 1) := by decide +kernel
theorem dX3_blameOf_40 : decode cX3_blameOf 40 = .ok (.iconst 0, 1) := by decide +kernel
theorem dX3_blameOf_41 : decode cX3_blameOf 41 = .ok (.istore 4, 2) := by decide +kernel
theorem dX3_blameOf_43 : decode cX3_blameOf 43 = .ok (.iconst 0, 1) := by decide +kernel
theorem dX3_blameOf_44 : decode cX3_blameOf 44 = .ok (.istore 5, 2) := by decide +kernel
theorem dX3_blameOf_46 : decode cX3_blameOf 46 = .ok (.iload 5, 2) := by decide +kernel
theorem dX3_blameOf_48 : decode cX3_blameOf 48 = .ok (.aload_n 0, 1) := by decide +kernel
theorem dX3_blameOf_49 : decode cX3_blameOf 49 = .ok (.getfield 94, 3) := by decide +kernel
theorem dX3_blameOf_52 : decode cX3_blameOf 52 = .ok (.if_icmp .ge 53, 3) := by decide +kernel
theorem dX3_blameOf_55 : decode cX3_blameOf 55 = .ok (.iload 4, 2) := by decide +kernel
theorem dX3_blameOf_57 : decode cX3_blameOf 57 = .ok (.aload_n 0, 1) := by decide +kernel
theorem dX3_blameOf_58 : decode cX3_blameOf 58 = .ok (.getfield 45, 3) := by decide +kernel
theorem dX3_blameOf_61 : decode cX3_blameOf 61 = .ok (.iload 5, 2) := by decide +kernel
theorem dX3_blameOf_63 : decode cX3_blameOf 63 = .ok (.iaload, 1) := by decide +kernel
theorem dX3_blameOf_64 : decode cX3_blameOf 64 = .ok (.aload_n 0, 1) := by decide +kernel
theorem dX3_blameOf_65 : decode cX3_blameOf 65 = .ok (.getfield 45, 3) := by decide +kernel
theorem dX3_blameOf_68 : decode cX3_blameOf 68 = .ok (.iload_n 1, 1) := by decide +kernel
theorem dX3_blameOf_69 : decode cX3_blameOf 69 = .ok (.iaload, 1) := by decide +kernel
theorem dX3_blameOf_70 : decode cX3_blameOf 70 = .ok (.if_icmp .ne 25, 3) := by decide +kernel
theorem dX3_blameOf_73 : decode cX3_blameOf 73 = .ok (.aload_n 0, 1) := by decide +kernel
theorem dX3_blameOf_74 : decode cX3_blameOf 74 = .ok (.getfield 41, 3) := by decide +kernel
theorem dX3_blameOf_77 : decode cX3_blameOf 77 = .ok (.iload 5, 2) := by decide +kernel
theorem dX3_blameOf_79 : decode cX3_blameOf 79 = .ok (.caload, 1) := by decide +kernel
theorem dX3_blameOf_80 : decode cX3_blameOf 80 = .ok (.bipush 120, 2) := by decide +kernel
theorem dX3_blameOf_82 : decode cX3_blameOf 82 = .ok (.if_icmp .ne 13, 3) := by decide +kernel
theorem dX3_blameOf_85 : decode cX3_blameOf 85 = .ok (.aload_n 0, 1) := by decide +kernel
theorem dX3_blameOf_86 : decode cX3_blameOf 86 = .ok (.getfield 38, 3) := by decide +kernel
theorem dX3_blameOf_89 : decode cX3_blameOf 89 = .ok (.iload 5, 2) := by decide +kernel
theorem dX3_blameOf_91 : decode cX3_blameOf 91 = .ok (.iaload, 1) := by decide +kernel
theorem dX3_blameOf_92 : decode cX3_blameOf 92 = .ok (.goto 4, 3) := by decide +kernel
theorem dX3_blameOf_95 : decode cX3_blameOf 95 = .ok (.iconst 0, 1) := by decide +kernel
theorem dX3_blameOf_96 : decode cX3_blameOf 96 = .ok (.iadd, 1) := by decide +kernel
theorem dX3_blameOf_97 : decode cX3_blameOf 97 = .ok (.istore 4, 2) := by decide +kernel
theorem dX3_blameOf_99 : decode cX3_blameOf 99 = .ok (.iinc 5 1, 3) := by decide +kernel
theorem dX3_blameOf_102 : decode cX3_blameOf 102 = .ok (.goto (-56), 3) := by decide +kernel
theorem dX3_blameOf_105 : decode cX3_blameOf 105 = .ok (.iload_n 3, 1) := by decide +kernel
theorem dX3_blameOf_106 : decode cX3_blameOf 106 = .ok (.istore 5, 2) := by decide +kernel
theorem dX3_blameOf_108 : decode cX3_blameOf 108 = .ok (.iconst 0, 1) := by decide +kernel
theorem dX3_blameOf_109 : decode cX3_blameOf 109 = .ok (.istore 6, 2) := by decide +kernel
theorem dX3_blameOf_111 : decode cX3_blameOf 111 = .ok (.iconst 0, 1) := by decide +kernel
theorem dX3_blameOf_112 : decode cX3_blameOf 112 = .ok (.istore 7, 2) := by decide +kernel
theorem dX3_blameOf_114 : decode cX3_blameOf 114 = .ok (.iload 7, 2) := by decide +kernel
theorem dX3_blameOf_116 : decode cX3_blameOf 116 = .ok (.aload_n 0, 1) := by decide +kernel
theorem dX3_blameOf_117 : decode cX3_blameOf 117 = .ok (.getfield 94, 3) := by decide +kernel
theorem dX3_blameOf_120 : decode cX3_blameOf 120 = .ok (.if_icmp .ge 91, 3) := by decide +kernel
theorem dX3_blameOf_123 : decode cX3_blameOf 123 = .ok (.aload_n 0, 1) := by decide +kernel
theorem dX3_blameOf_124 : decode cX3_blameOf 124 = .ok (.getfield 45, 3) := by decide +kernel
theorem dX3_blameOf_127 : decode cX3_blameOf 127 = .ok (.iload 7, 2) := by decide +kernel
theorem dX3_blameOf_129 : decode cX3_blameOf 129 = .ok (.iaload, 1) := by decide +kernel
theorem dX3_blameOf_130 : decode cX3_blameOf 130 = .ok (.aload_n 0, 1) := by decide +kernel
theorem dX3_blameOf_131 : decode cX3_blameOf 131 = .ok (.getfield 45, 3) := by decide +kernel
theorem dX3_blameOf_134 : decode cX3_blameOf 134 = .ok (.iload_n 1, 1) := by decide +kernel
theorem dX3_blameOf_135 : decode cX3_blameOf 135 = .ok (.iaload, 1) := by decide +kernel
theorem dX3_blameOf_136 : decode cX3_blameOf 136 = .ok (.if_icmp .ne 19, 3) := by decide +kernel
theorem dX3_blameOf_139 : decode cX3_blameOf 139 = .ok (.aload_n 0, 1) := by decide +kernel
theorem dX3_blameOf_140 : decode cX3_blameOf 140 = .ok (.getfield 41, 3) := by decide +kernel
theorem dX3_blameOf_143 : decode cX3_blameOf 143 = .ok (.iload 7, 2) := by decide +kernel
theorem dX3_blameOf_145 : decode cX3_blameOf 145 = .ok (.caload, 1) := by decide +kernel
theorem dX3_blameOf_146 : decode cX3_blameOf 146 = .ok (.bipush 120, 2) := by decide +kernel
theorem dX3_blameOf_148 : decode cX3_blameOf 148 = .ok (.if_icmp .ne 7, 3) := by decide +kernel
theorem dX3_blameOf_151 : decode cX3_blameOf 151 = .ok (.iconst 1, 1) := by decide +kernel
theorem dX3_blameOf_152 : decode cX3_blameOf 152 = .ok (.goto 4, 3) := by decide +kernel
theorem dX3_blameOf_155 : decode cX3_blameOf 155 = .ok (.iconst 0, 1) := by decide +kernel
theorem dX3_blameOf_156 : decode cX3_blameOf 156 = .ok (.istore 8, 2) := by decide +kernel
theorem dX3_blameOf_158 : decode cX3_blameOf 158 = .ok (.iload 5, 2) := by decide +kernel
theorem dX3_blameOf_160 : decode cX3_blameOf 160 = .ok (.iload 8, 2) := by decide +kernel
theorem dX3_blameOf_162 : decode cX3_blameOf 162 = .ok (.ifCond .eq 18, 3) := by decide +kernel
theorem dX3_blameOf_165 : decode cX3_blameOf 165 = .ok (.iload_n 3, 1) := by decide +kernel
theorem dX3_blameOf_166 : decode cX3_blameOf 166 = .ok (.aload_n 0, 1) := by decide +kernel
theorem dX3_blameOf_167 : decode cX3_blameOf 167 = .ok (.getfield 38, 3) := by decide +kernel
theorem dX3_blameOf_170 : decode cX3_blameOf 170 = .ok (.iload 7, 2) := by decide +kernel
theorem dX3_blameOf_172 : decode cX3_blameOf 172 = .ok (.iaload, 1) := by decide +kernel
theorem dX3_blameOf_173 : decode cX3_blameOf 173 = .ok (.imul, 1) := by decide +kernel
theorem dX3_blameOf_174 : decode cX3_blameOf 174 = .ok (.iload 4, 2) := by decide +kernel
theorem dX3_blameOf_176 : decode cX3_blameOf 176 = .ok (.idiv, 1) := by decide +kernel
theorem dX3_blameOf_177 : decode cX3_blameOf 177 = .ok (.goto 4, 3) := by decide +kernel
theorem dX3_blameOf_180 : decode cX3_blameOf 180 = .ok (.iconst 0, 1) := by decide +kernel
theorem dX3_blameOf_181 : decode cX3_blameOf 181 = .ok (.isub, 1) := by decide +kernel
theorem dX3_blameOf_182 : decode cX3_blameOf 182 = .ok (.istore 5, 2) := by decide +kernel
theorem dX3_blameOf_184 : decode cX3_blameOf 184 = .ok (.iload 6, 2) := by decide +kernel
theorem dX3_blameOf_186 : decode cX3_blameOf 186 = .ok (.iload 8, 2) := by decide +kernel
theorem dX3_blameOf_188 : decode cX3_blameOf 188 = .ok (.ifCond .eq 13, 3) := by decide +kernel
theorem dX3_blameOf_191 : decode cX3_blameOf 191 = .ok (.iload 7, 2) := by decide +kernel
theorem dX3_blameOf_193 : decode cX3_blameOf 193 = .ok (.iload_n 1, 1) := by decide +kernel
theorem dX3_blameOf_194 : decode cX3_blameOf 194 = .ok (.if_icmp .ge 7, 3) := by decide +kernel
theorem dX3_blameOf_197 : decode cX3_blameOf 197 = .ok (.iconst 1, 1) := by decide +kernel
theorem dX3_blameOf_198 : decode cX3_blameOf 198 = .ok (.goto 4, 3) := by decide +kernel
theorem dX3_blameOf_201 : decode cX3_blameOf 201 = .ok (.iconst 0, 1) := by decide +kernel
theorem dX3_blameOf_202 : decode cX3_blameOf 202 = .ok (.iadd, 1) := by decide +kernel
theorem dX3_blameOf_203 : decode cX3_blameOf 203 = .ok (.istore 6, 2) := by decide +kernel
theorem dX3_blameOf_205 : decode cX3_blameOf 205 = .ok (.iinc 7 1, 3) := by decide +kernel
theorem dX3_blameOf_208 : decode cX3_blameOf 208 = .ok (.goto (-94), 3) := by decide +kernel
theorem dX3_blameOf_211 : decode cX3_blameOf 211 = .ok (.iload_n 3, 1) := by decide +kernel
theorem dX3_blameOf_212 : decode cX3_blameOf 212 = .ok (.aload_n 0, 1) := by decide +kernel
theorem dX3_blameOf_213 : decode cX3_blameOf 213 = .ok (.getfield 38, 3) := by decide +kernel
theorem dX3_blameOf_216 : decode cX3_blameOf 216 = .ok (.iload_n 1, 1) := by decide +kernel
theorem dX3_blameOf_217 : decode cX3_blameOf 217 = .ok (.iaload, 1) := by decide +kernel
theorem dX3_blameOf_218 : decode cX3_blameOf 218 = .ok (.imul, 1) := by decide +kernel
theorem dX3_blameOf_219 : decode cX3_blameOf 219 = .ok (.iload 4, 2) := by decide +kernel
theorem dX3_blameOf_221 : decode cX3_blameOf 221 = .ok (.idiv, 1) := by decide +kernel
theorem dX3_blameOf_222 : decode cX3_blameOf 222 = .ok (.iload 6, 2) := by decide +kernel
theorem dX3_blameOf_224 : decode cX3_blameOf 224 = .ok (.iload 5, 2) := by decide +kernel
theorem dX3_blameOf_226 : decode cX3_blameOf 226 = .ok (.if_icmp .ge 7, 3) := by decide +kernel
theorem dX3_blameOf_229 : decode cX3_blameOf 229 = .ok (.iconst 1, 1) := by decide +kernel
theorem dX3_blameOf_230 : decode cX3_blameOf 230 = .ok (.goto 4, 3) := by decide +kernel
theorem dX3_blameOf_233 : decode cX3_blameOf 233 = .ok (.iconst 0, 1) := by decide +kernel
theorem dX3_blameOf_234 : decode cX3_blameOf 234 = .ok (.iadd, 1) := by decide +kernel
theorem dX3_blameOf_235 : decode cX3_blameOf 235 = .ok (.ireturn, 1) := by decide +kernel
theorem dX3_isGraded_0 : decode cX3_isGraded 0 = .ok (.aload_n 0, 1) := by decide +kernel
theorem dX3_isGraded_1 : decode cX3_isGraded 1 = .ok (.iload_n 1, 1) := by decide +kernel
theorem dX3_isGraded_2 : decode cX3_isGraded 2 = .ok (.bipush 45, 2) := by decide +kernel
theorem dX3_isGraded_4 : decode cX3_isGraded 4 = .ok (.invokevirtual 116, 3) := by decide +kernel
theorem dX3_isGraded_7 : decode cX3_isGraded 7 = .ok (.ifCond .ne 7, 3) := by decide +kernel
theorem dX3_isGraded_10 : decode cX3_isGraded 10 = .ok (.iconst 1, 1) := by decide +kernel
theorem dX3_isGraded_11 : decode cX3_isGraded 11 = .ok (.goto 4, 3) := by decide +kernel
theorem dX3_isGraded_14 : decode cX3_isGraded 14 = .ok (.iconst 0, 1) := by decide +kernel
theorem dX3_isGraded_15 : decode cX3_isGraded 15 = .ok (.ireturn, 1) := by decide +kernel
theorem dX3_worth_0 : decode cX3_worth 0 = .ok (.aload_n 0, 1) := by decide +kernel
theorem dX3_worth_1 : decode cX3_worth 1 = .ok (.aload_n 0, 1) := by decide +kernel
theorem dX3_worth_2 : decode cX3_worth 2 = .ok (.iload_n 1, 1) := by decide +kernel
theorem dX3_worth_3 : decode cX3_worth 3 = .ok (.invokevirtual 113, 3) := by decide +kernel
theorem dX3_worth_6 : decode cX3_worth 6 = .ok (.ifCond .ne 7, 3) := by decide +kernel
theorem dX3_worth_9 : decode cX3_worth 9 = .ok (.iconst 1, 1) := by decide +kernel
theorem dX3_worth_10 : decode cX3_worth 10 = .ok (.goto 16, 3) := by decide +kernel
theorem dX3_worth_13 : decode cX3_worth 13 = .ok (.aload_n 0, 1) := by decide +kernel
theorem dX3_worth_14 : decode cX3_worth 14 = .ok (.iload_n 1, 1) := by decide +kernel
theorem dX3_worth_15 : decode cX3_worth 15 = .ok (.invokevirtual 126, 3) := by decide +kernel
theorem dX3_worth_18 : decode cX3_worth 18 = .ok (.ifCond .ne 7, 3) := by decide +kernel
theorem dX3_worth_21 : decode cX3_worth 21 = .ok (.iconst 2, 1) := by decide +kernel
theorem dX3_worth_22 : decode cX3_worth 22 = .ok (.goto 4, 3) := by decide +kernel
theorem dX3_worth_25 : decode cX3_worth 25 = .ok (.iconst 0, 1) := by decide +kernel
theorem dX3_worth_26 : decode cX3_worth 26 = .ok (.putfield 48, 3) := by decide +kernel
theorem dX3_worth_29 : decode cX3_worth 29 = .ok (.aload_n 0, 1) := by decide +kernel
theorem dX3_worth_30 : decode cX3_worth 30 = .ok (.getfield 48, 3) := by decide +kernel
theorem dX3_worth_33 : decode cX3_worth 33 = .ok (.ifCond .ne 7, 3) := by decide +kernel
theorem dX3_worth_36 : decode cX3_worth 36 = .ok (.iconst 0, 1) := by decide +kernel
theorem dX3_worth_37 : decode cX3_worth 37 = .ok (.goto 4, 3) := by decide +kernel
theorem dX3_worth_40 : decode cX3_worth 40 = .ok (.iconst (-1), 1) := by decide +kernel
theorem dX3_worth_41 : decode cX3_worth 41 = .ok (.istore_n 2, 1) := by decide +kernel
theorem dX3_worth_42 : decode cX3_worth 42 = .ok (.iconst 0, 1) := by decide +kernel
theorem dX3_worth_43 : decode cX3_worth 43 = .ok (.istore_n 3, 1) := by decide +kernel
theorem dX3_worth_44 : decode cX3_worth 44 = .ok (.iload_n 3, 1) := by decide +kernel
theorem dX3_worth_45 : decode cX3_worth 45 = .ok (.aload_n 0, 1) := by decide +kernel
theorem dX3_worth_46 : decode cX3_worth 46 = .ok (.getfield 94, 3) := by decide +kernel
theorem dX3_worth_49 : decode cX3_worth 49 = .ok (.if_icmp .ge 41, 3) := by decide +kernel
theorem dX3_worth_52 : decode cX3_worth 52 = .ok (.aload_n 0, 1) := by decide +kernel
theorem dX3_worth_53 : decode cX3_worth 53 = .ok (.getfield 48, 3) := by decide +kernel
theorem dX3_worth_56 : decode cX3_worth 56 = .ok (.ifCond .ne 34, 3) := by decide +kernel
theorem dX3_worth_59 : decode cX3_worth 59 = .ok (.iload_n 2, 1) := by decide +kernel
theorem dX3_worth_60 : decode cX3_worth 60 = .ok (.aload_n 0, 1) := by decide +kernel
theorem dX3_worth_61 : decode cX3_worth 61 = .ok (.getfield 45, 3) := by decide +kernel
theorem dX3_worth_64 : decode cX3_worth 64 = .ok (.iload_n 3, 1) := by decide +kernel
theorem dX3_worth_65 : decode cX3_worth 65 = .ok (.iaload, 1) := by decide +kernel
theorem dX3_worth_66 : decode cX3_worth 66 = .ok (.bipush 10, 2) := by decide +kernel
theorem dX3_worth_68 : decode cX3_worth 68 = .ok (.iload_n 1, 1) := by decide +kernel
theorem dX3_worth_69 : decode cX3_worth 69 = .ok (.iadd, 1) := by decide +kernel
theorem dX3_worth_70 : decode cX3_worth 70 = .ok (.if_icmp .ne 11, 3) := by decide +kernel
theorem dX3_worth_73 : decode cX3_worth 73 = .ok (.aload_n 0, 1) := by decide +kernel
theorem dX3_worth_74 : decode cX3_worth 74 = .ok (.iload_n 3, 1) := by decide +kernel
theorem dX3_worth_75 : decode cX3_worth 75 = .ok (.invokevirtual 129, 3) := by decide +kernel
theorem dX3_worth_78 : decode cX3_worth 78 = .ok (.goto 4, 3) := by decide +kernel
theorem dX3_worth_81 : decode cX3_worth 81 = .ok (.iconst 0, 1) := by decide +kernel
theorem dX3_worth_82 : decode cX3_worth 82 = .ok (.iadd, 1) := by decide +kernel
theorem dX3_worth_83 : decode cX3_worth 83 = .ok (.istore_n 2, 1) := by decide +kernel
theorem dX3_worth_84 : decode cX3_worth 84 = .ok (.iinc 3 1, 3) := by decide +kernel
theorem dX3_worth_87 : decode cX3_worth 87 = .ok (.goto (-43), 3) := by decide +kernel
theorem dX3_worth_90 : decode cX3_worth 90 = .ok (.iload_n 2, 1) := by decide +kernel
theorem dX3_worth_91 : decode cX3_worth 91 = .ok (.ireturn, 1) := by decide +kernel
theorem dX3_loss_0 : decode cX3_loss 0 = .ok (.aload_n 0, 1) := by decide +kernel
theorem dX3_loss_1 : decode cX3_loss 1 = .ok (.aload_n 0, 1) := by decide +kernel
theorem dX3_loss_2 : decode cX3_loss 2 = .ok (.iload_n 1, 1) := by decide +kernel
theorem dX3_loss_3 : decode cX3_loss 3 = .ok (.invokevirtual 113, 3) := by decide +kernel
theorem dX3_loss_6 : decode cX3_loss 6 = .ok (.ifCond .ne 7, 3) := by decide +kernel
theorem dX3_loss_9 : decode cX3_loss 9 = .ok (.iconst 1, 1) := by decide +kernel
theorem dX3_loss_10 : decode cX3_loss 10 = .ok (.goto 16, 3) := by decide +kernel
theorem dX3_loss_13 : decode cX3_loss 13 = .ok (.aload_n 0, 1) := by decide +kernel
theorem dX3_loss_14 : decode cX3_loss 14 = .ok (.iload_n 1, 1) := by decide +kernel
theorem dX3_loss_15 : decode cX3_loss 15 = .ok (.invokevirtual 126, 3) := by decide +kernel
theorem dX3_loss_18 : decode cX3_loss 18 = .ok (.ifCond .ne 7, 3) := by decide +kernel
theorem dX3_loss_21 : decode cX3_loss 21 = .ok (.iconst 2, 1) := by decide +kernel
theorem dX3_loss_22 : decode cX3_loss 22 = .ok (.goto 4, 3) := by decide +kernel
theorem dX3_loss_25 : decode cX3_loss 25 = .ok (.iconst 0, 1) := by decide +kernel
theorem dX3_loss_26 : decode cX3_loss 26 = .ok (.putfield 48, 3) := by decide +kernel
theorem dX3_loss_29 : decode cX3_loss 29 = .ok (.aload_n 0, 1) := by decide +kernel
theorem dX3_loss_30 : decode cX3_loss 30 = .ok (.getfield 48, 3) := by decide +kernel
theorem dX3_loss_33 : decode cX3_loss 33 = .ok (.ifCond .ne 11, 3) := by decide +kernel
theorem dX3_loss_36 : decode cX3_loss 36 = .ok (.aload_n 0, 1) := by decide +kernel
theorem dX3_loss_37 : decode cX3_loss 37 = .ok (.iload_n 1, 1) := by decide +kernel
theorem dX3_loss_38 : decode cX3_loss 38 = .ok (.invokevirtual 123, 3) := by decide +kernel
theorem dX3_loss_41 : decode cX3_loss 41 = .ok (.goto 4, 3) := by decide +kernel
theorem dX3_loss_44 : decode cX3_loss 44 = .ok (.iconst (-1), 1) := by decide +kernel
theorem dX3_loss_45 : decode cX3_loss 45 = .ok (.ireturn, 1) := by decide +kernel
theorem dX3_counts_0 : decode cX3_counts 0 = .ok (.aload_n 0, 1) := by decide +kernel
theorem dX3_counts_1 : decode cX3_counts 1 = .ok (.getfield 35, 3) := by decide +kernel
theorem dX3_counts_4 : decode cX3_counts 4 = .ok (.iload_n 1, 1) := by decide +kernel
theorem dX3_counts_5 : decode cX3_counts 5 = .ok (.iaload, 1) := by decide +kernel
theorem dX3_counts_6 : decode cX3_counts 6 = .ok (.iload_n 2, 1) := by decide +kernel
theorem dX3_counts_7 : decode cX3_counts 7 = .ok (.if_icmp .ne 34, 3) := by decide +kernel
theorem dX3_counts_10 : decode cX3_counts 10 = .ok (.aload_n 0, 1) := by decide +kernel
theorem dX3_counts_11 : decode cX3_counts 11 = .ok (.getfield 45, 3) := by decide +kernel
theorem dX3_counts_14 : decode cX3_counts 14 = .ok (.iload_n 1, 1) := by decide +kernel
theorem dX3_counts_15 : decode cX3_counts 15 = .ok (.iaload, 1) := by decide +kernel
theorem dX3_counts_16 : decode cX3_counts 16 = .ok (.bipush 10, 2) := by decide +kernel
theorem dX3_counts_18 : decode cX3_counts 18 = .ok (.if_icmp .lt 23, 3) := by decide +kernel
theorem dX3_counts_21 : decode cX3_counts 21 = .ok (.aload_n 0, 1) := by decide +kernel
theorem dX3_counts_22 : decode cX3_counts 22 = .ok (.aload_n 0, 1) := by decide +kernel
theorem dX3_counts_23 : decode cX3_counts 23 = .ok (.getfield 45, 3) := by decide +kernel
theorem dX3_counts_26 : decode cX3_counts 26 = .ok (.iload_n 1, 1) := by decide +kernel
theorem dX3_counts_27 : decode cX3_counts 27 = .ok (.iaload, 1) := by decide +kernel
theorem dX3_counts_28 : decode cX3_counts 28 = .ok (.bipush 10, 2) := by decide +kernel
theorem dX3_counts_30 : decode cX3_counts 30 = .ok (.isub, 1) := by decide +kernel
theorem dX3_counts_31 : decode cX3_counts 31 = .ok (.invokevirtual 126, 3) := by decide +kernel
theorem dX3_counts_34 : decode cX3_counts 34 = .ok (.ifCond .eq 7, 3) := by decide +kernel
theorem dX3_counts_37 : decode cX3_counts 37 = .ok (.iconst 1, 1) := by decide +kernel
theorem dX3_counts_38 : decode cX3_counts 38 = .ok (.goto 4, 3) := by decide +kernel
theorem dX3_counts_41 : decode cX3_counts 41 = .ok (.iconst 0, 1) := by decide +kernel
theorem dX3_counts_42 : decode cX3_counts 42 = .ok (.ireturn, 1) := by decide +kernel
theorem dX3_pay_0 : decode cX3_pay 0 = .ok (.aload_n 0, 1) := by decide +kernel
theorem dX3_pay_1 : decode cX3_pay 1 = .ok (.aload_n 0, 1) := by decide +kernel
theorem dX3_pay_2 : decode cX3_pay 2 = .ok (.iload_n 1, 1) := by decide +kernel
theorem dX3_pay_3 : decode cX3_pay 3 = .ok (.invokevirtual 63, 3) := by decide +kernel
theorem dX3_pay_6 : decode cX3_pay 6 = .ok (.ifCond .eq 7, 3) := by decide +kernel
theorem dX3_pay_9 : decode cX3_pay 9 = .ok (.iconst 0, 1) := by decide +kernel
theorem dX3_pay_10 : decode cX3_pay 10 = .ok (.goto 4, 3) := by decide +kernel
theorem dX3_pay_13 : decode cX3_pay 13 = .ok (.iconst 1, 1) := by decide +kernel
theorem dX3_pay_14 : decode cX3_pay 14 = .ok (.putfield 48, 3) := by decide +kernel
theorem dX3_pay_17 : decode cX3_pay 17 = .ok (.aload_n 0, 1) := by decide +kernel
theorem dX3_pay_18 : decode cX3_pay 18 = .ok (.getfield 48, 3) := by decide +kernel
theorem dX3_pay_21 : decode cX3_pay 21 = .ok (.ifCond .ne 7, 3) := by decide +kernel
theorem dX3_pay_24 : decode cX3_pay 24 = .ok (.lconst 0, 1) := by decide +kernel
theorem dX3_pay_25 : decode cX3_pay 25 = .ok (.goto 6, 3) := by decide +kernel
theorem dX3_pay_28 : decode cX3_pay 28 = .ok (.ldc2_w 132, 3) := by decide +kernel
theorem dX3_pay_31 : decode cX3_pay 31 = .ok (.lstore_n 2, 1) := by decide +kernel
theorem dX3_pay_32 : decode cX3_pay 32 = .ok (.iconst 0, 1) := by decide +kernel
theorem dX3_pay_33 : decode cX3_pay 33 = .ok (.istore 4, 2) := by decide +kernel
theorem dX3_pay_35 : decode cX3_pay 35 = .ok (.iload 4, 2) := by decide +kernel
theorem dX3_pay_37 : decode cX3_pay 37 = .ok (.aload_n 0, 1) := by decide +kernel
theorem dX3_pay_38 : decode cX3_pay 38 = .ok (.getfield 94, 3) := by decide +kernel
theorem dX3_pay_41 : decode cX3_pay 41 = .ok (.if_icmp .ge 40, 3) := by decide +kernel
theorem dX3_pay_44 : decode cX3_pay 44 = .ok (.aload_n 0, 1) := by decide +kernel
theorem dX3_pay_45 : decode cX3_pay 45 = .ok (.getfield 48, 3) := by decide +kernel
theorem dX3_pay_48 : decode cX3_pay 48 = .ok (.ifCond .ne 33, 3) := by decide +kernel
theorem dX3_pay_51 : decode cX3_pay 51 = .ok (.lload_n 2, 1) := by decide +kernel
theorem dX3_pay_52 : decode cX3_pay 52 = .ok (.aload_n 0, 1) := by decide +kernel
theorem dX3_pay_53 : decode cX3_pay 53 = .ok (.iload 4, 2) := by decide +kernel
theorem dX3_pay_55 : decode cX3_pay 55 = .ok (.iload_n 1, 1) := by decide +kernel
theorem dX3_pay_56 : decode cX3_pay 56 = .ok (.invokevirtual 134, 3) := by decide +kernel
theorem dX3_pay_59 : decode cX3_pay 59 = .ok (.ifCond .eq 13, 3) := by decide +kernel
theorem dX3_pay_62 : decode cX3_pay 62 = .ok (.aload_n 0, 1) := by decide +kernel
theorem dX3_pay_63 : decode cX3_pay 63 = .ok (.iload 4, 2) := by decide +kernel
theorem dX3_pay_65 : decode cX3_pay 65 = .ok (.invokevirtual 129, 3) := by decide +kernel
theorem dX3_pay_68 : decode cX3_pay 68 = .ok (.i2l, 1) := by decide +kernel
theorem dX3_pay_69 : decode cX3_pay 69 = .ok (.goto 4, 3) := by decide +kernel
theorem dX3_pay_72 : decode cX3_pay 72 = .ok (.lconst 0, 1) := by decide +kernel
theorem dX3_pay_73 : decode cX3_pay 73 = .ok (.ladd, 1) := by decide +kernel
theorem dX3_pay_74 : decode cX3_pay 74 = .ok (.lstore_n 2, 1) := by decide +kernel
theorem dX3_pay_75 : decode cX3_pay 75 = .ok (.iinc 4 1, 3) := by decide +kernel
theorem dX3_pay_78 : decode cX3_pay 78 = .ok (.goto (-43), 3) := by decide +kernel
theorem dX3_pay_81 : decode cX3_pay 81 = .ok (.lload_n 2, 1) := by decide +kernel
theorem dX3_pay_82 : decode cX3_pay 82 = .ok (.lreturn, 1) := by decide +kernel
theorem dX3_blame_0 : decode cX3_blame 0 = .ok (.aload_n 0, 1) := by decide +kernel
theorem dX3_blame_1 : decode cX3_blame 1 = .ok (.aload_n 0, 1) := by decide +kernel
theorem dX3_blame_2 : decode cX3_blame 2 = .ok (.iload_n 1, 1) := by decide +kernel
theorem dX3_blame_3 : decode cX3_blame 3 = .ok (.invokevirtual 63, 3) := by decide +kernel
theorem dX3_blame_6 : decode cX3_blame 6 = .ok (.ifCond .eq 7, 3) := by decide +kernel
theorem dX3_blame_9 : decode cX3_blame 9 = .ok (.iconst 0, 1) := by decide +kernel
theorem dX3_blame_10 : decode cX3_blame 10 = .ok (.goto 4, 3) := by decide +kernel
theorem dX3_blame_13 : decode cX3_blame 13 = .ok (.iconst 1, 1) := by decide +kernel
theorem dX3_blame_14 : decode cX3_blame 14 = .ok (.putfield 48, 3) := by decide +kernel
theorem dX3_blame_17 : decode cX3_blame 17 = .ok (.aload_n 0, 1) := by decide +kernel
theorem dX3_blame_18 : decode cX3_blame 18 = .ok (.getfield 48, 3) := by decide +kernel
theorem dX3_blame_21 : decode cX3_blame 21 = .ok (.ifCond .ne 7, 3) := by decide +kernel
theorem dX3_blame_24 : decode cX3_blame 24 = .ok (.lconst 0, 1) := by decide +kernel
theorem dX3_blame_25 : decode cX3_blame 25 = .ok (.goto 6, 3) := by decide +kernel
theorem dX3_blame_28 : decode cX3_blame 28 = .ok (.ldc2_w 132, 3) := by decide +kernel
theorem dX3_blame_31 : decode cX3_blame 31 = .ok (.lstore_n 2, 1) := by decide +kernel
theorem dX3_blame_32 : decode cX3_blame 32 = .ok (.iconst 0, 1) := by decide +kernel
theorem dX3_blame_33 : decode cX3_blame 33 = .ok (.istore 4, 2) := by decide +kernel
theorem dX3_blame_35 : decode cX3_blame 35 = .ok (.iload 4, 2) := by decide +kernel
theorem dX3_blame_37 : decode cX3_blame 37 = .ok (.aload_n 0, 1) := by decide +kernel
theorem dX3_blame_38 : decode cX3_blame 38 = .ok (.getfield 94, 3) := by decide +kernel
theorem dX3_blame_41 : decode cX3_blame 41 = .ok (.if_icmp .ge 40, 3) := by decide +kernel
theorem dX3_blame_44 : decode cX3_blame 44 = .ok (.aload_n 0, 1) := by decide +kernel
theorem dX3_blame_45 : decode cX3_blame 45 = .ok (.getfield 48, 3) := by decide +kernel
theorem dX3_blame_48 : decode cX3_blame 48 = .ok (.ifCond .ne 33, 3) := by decide +kernel
theorem dX3_blame_51 : decode cX3_blame 51 = .ok (.lload_n 2, 1) := by decide +kernel
theorem dX3_blame_52 : decode cX3_blame 52 = .ok (.aload_n 0, 1) := by decide +kernel
theorem dX3_blame_53 : decode cX3_blame 53 = .ok (.iload 4, 2) := by decide +kernel
theorem dX3_blame_55 : decode cX3_blame 55 = .ok (.iload_n 1, 1) := by decide +kernel
theorem dX3_blame_56 : decode cX3_blame 56 = .ok (.invokevirtual 134, 3) := by decide +kernel
theorem dX3_blame_59 : decode cX3_blame 59 = .ok (.ifCond .eq 13, 3) := by decide +kernel
theorem dX3_blame_62 : decode cX3_blame 62 = .ok (.aload_n 0, 1) := by decide +kernel
theorem dX3_blame_63 : decode cX3_blame 63 = .ok (.iload 4, 2) := by decide +kernel
theorem dX3_blame_65 : decode cX3_blame 65 = .ok (.invokevirtual 138, 3) := by decide +kernel
theorem dX3_blame_68 : decode cX3_blame 68 = .ok (.i2l, 1) := by decide +kernel
theorem dX3_blame_69 : decode cX3_blame 69 = .ok (.goto 4, 3) := by decide +kernel
theorem dX3_blame_72 : decode cX3_blame 72 = .ok (.lconst 0, 1) := by decide +kernel
theorem dX3_blame_73 : decode cX3_blame 73 = .ok (.ladd, 1) := by decide +kernel
theorem dX3_blame_74 : decode cX3_blame 74 = .ok (.lstore_n 2, 1) := by decide +kernel
theorem dX3_blame_75 : decode cX3_blame 75 = .ok (.iinc 4 1, 3) := by decide +kernel
theorem dX3_blame_78 : decode cX3_blame 78 = .ok (.goto (-43), 3) := by decide +kernel
theorem dX3_blame_81 : decode cX3_blame 81 = .ok (.lload_n 2, 1) := by decide +kernel
theorem dX3_blame_82 : decode cX3_blame 82 = .ok (.lreturn, 1) := by decide +kernel
theorem dX3_balanceBySamples_0 : decode cX3_balanceBySamples 0 = .ok (.aload_n 0, 1) := by decide +kernel
theorem dX3_balanceBySamples_1 : decode cX3_balanceBySamples 1 = .ok (.aload_n 0, 1) := by decide +kernel
theorem dX3_balanceBySamples_2 : decode cX3_balanceBySamples 2 = .ok (.iload_n 1, 1) := by decide +kernel
theorem dX3_balanceBySamples_3 : decode cX3_balanceBySamples 3 = .ok (.invokevirtual 63, 3) := by decide +kernel
theorem dX3_balanceBySamples_6 : decode cX3_balanceBySamples 6 = .ok (.ifCond .eq 7, 3) := by decide +kernel
theorem dX3_balanceBySamples_9 : decode cX3_balanceBySamples 9 = .ok (.iconst 0, 1) := by decide +kernel
theorem dX3_balanceBySamples_10 : decode cX3_balanceBySamples 10 = .ok (.goto 4, 3) := by decide +kernel
theorem dX3_balanceBySamples_13 : decode cX3_balanceBySamples 13 = .ok (.iconst 1, 1) := by decide +kernel
theorem dX3_balanceBySamples_14 : decode cX3_balanceBySamples 14 = .ok (.putfield 48, 3) := by decide +kernel
theorem dX3_balanceBySamples_17 : decode cX3_balanceBySamples 17 = .ok (.aload_n 0, 1) := by decide +kernel
theorem dX3_balanceBySamples_18 : decode cX3_balanceBySamples 18 = .ok (.getfield 48, 3) := by decide +kernel
theorem dX3_balanceBySamples_21 : decode cX3_balanceBySamples 21 = .ok (.ifCond .ne 17, 3) := by decide +kernel
theorem dX3_balanceBySamples_24 : decode cX3_balanceBySamples 24 = .ok (.aload_n 0, 1) := by decide +kernel
theorem dX3_balanceBySamples_25 : decode cX3_balanceBySamples 25 = .ok (.iload_n 1, 1) := by decide +kernel
theorem dX3_balanceBySamples_26 : decode cX3_balanceBySamples 26 = .ok (.invokevirtual 141, 3) := by decide +kernel
theorem dX3_balanceBySamples_29 : decode cX3_balanceBySamples 29 = .ok (.aload_n 0, 1) := by decide +kernel
theorem dX3_balanceBySamples_30 : decode cX3_balanceBySamples 30 = .ok (.iload_n 1, 1) := by decide +kernel
theorem dX3_balanceBySamples_31 : decode cX3_balanceBySamples 31 = .ok (.invokevirtual 145, 3) := by decide +kernel
theorem dX3_balanceBySamples_34 : decode cX3_balanceBySamples 34 = .ok (.lsub, 1) := by decide +kernel
theorem dX3_balanceBySamples_35 : decode cX3_balanceBySamples 35 = .ok (.goto 6, 3) := by decide +kernel
theorem dX3_balanceBySamples_38 : decode cX3_balanceBySamples 38 = .ok (.ldc2_w 132, 3) := by decide +kernel
theorem dX3_balanceBySamples_41 : decode cX3_balanceBySamples 41 = .ok (.lreturn, 1) := by decide +kernel
theorem dX3_wayOf_0 : decode cX3_wayOf 0 = .ok (.aload_n 0, 1) := by decide +kernel
theorem dX3_wayOf_1 : decode cX3_wayOf 1 = .ok (.iload_n 1, 1) := by decide +kernel
theorem dX3_wayOf_2 : decode cX3_wayOf 2 = .ok (.invokevirtual 110, 3) := by decide +kernel
theorem dX3_wayOf_5 : decode cX3_wayOf 5 = .ok (.ifCond .ne 8, 3) := by decide +kernel
theorem dX3_wayOf_8 : decode cX3_wayOf 8 = .ok (.bipush 32, 2) := by decide +kernel
theorem dX3_wayOf_10 : decode cX3_wayOf 10 = .ok (.goto 36, 3) := by decide +kernel
theorem dX3_wayOf_13 : decode cX3_wayOf 13 = .ok (.aload_n 0, 1) := by decide +kernel
theorem dX3_wayOf_14 : decode cX3_wayOf 14 = .ok (.getfield 45, 3) := by decide +kernel
theorem dX3_wayOf_17 : decode cX3_wayOf 17 = .ok (.iload_n 1, 1) := by decide +kernel
theorem dX3_wayOf_18 : decode cX3_wayOf 18 = .ok (.iaload, 1) := by decide +kernel
theorem dX3_wayOf_19 : decode cX3_wayOf 19 = .ok (.iconst (-1), 1) := by decide +kernel
theorem dX3_wayOf_20 : decode cX3_wayOf 20 = .ok (.if_icmp .ne 8, 3) := by decide +kernel
theorem dX3_wayOf_23 : decode cX3_wayOf 23 = .ok (.bipush 116, 2) := by decide +kernel
theorem dX3_wayOf_25 : decode cX3_wayOf 25 = .ok (.goto 21, 3) := by decide +kernel
theorem dX3_wayOf_28 : decode cX3_wayOf 28 = .ok (.aload_n 0, 1) := by decide +kernel
theorem dX3_wayOf_29 : decode cX3_wayOf 29 = .ok (.getfield 45, 3) := by decide +kernel
theorem dX3_wayOf_32 : decode cX3_wayOf 32 = .ok (.iload_n 1, 1) := by decide +kernel
theorem dX3_wayOf_33 : decode cX3_wayOf 33 = .ok (.iaload, 1) := by decide +kernel
theorem dX3_wayOf_34 : decode cX3_wayOf 34 = .ok (.bipush 10, 2) := by decide +kernel
theorem dX3_wayOf_36 : decode cX3_wayOf 36 = .ok (.if_icmp .ge 8, 3) := by decide +kernel
theorem dX3_wayOf_39 : decode cX3_wayOf 39 = .ok (.bipush 118, 2) := by decide +kernel
theorem dX3_wayOf_41 : decode cX3_wayOf 41 = .ok (.goto 5, 3) := by decide +kernel
theorem dX3_wayOf_44 : decode cX3_wayOf 44 = .ok (.bipush 98, 2) := by decide +kernel
theorem dX3_wayOf_46 : decode cX3_wayOf 46 = .ok (.ireturn, 1) := by decide +kernel
theorem dX3_spoiltShare_0 : decode cX3_spoiltShare 0 = .ok (.iconst 0, 1) := by decide +kernel
theorem dX3_spoiltShare_1 : decode cX3_spoiltShare 1 = .ok (.istore_n 1, 1) := by decide +kernel
theorem dX3_spoiltShare_2 : decode cX3_spoiltShare 2 = .ok (.iconst 0, 1) := by decide +kernel
theorem dX3_spoiltShare_3 : decode cX3_spoiltShare 3 = .ok (.istore_n 2, 1) := by decide +kernel
theorem dX3_spoiltShare_4 : decode cX3_spoiltShare 4 = .ok (.iconst 0, 1) := by decide +kernel
theorem dX3_spoiltShare_5 : decode cX3_spoiltShare 5 = .ok (.istore_n 3, 1) := by decide +kernel
theorem dX3_spoiltShare_6 : decode cX3_spoiltShare 6 = .ok (.iload_n 3, 1) := by decide +kernel
theorem dX3_spoiltShare_7 : decode cX3_spoiltShare 7 = .ok (.aload_n 0, 1) := by decide +kernel
theorem dX3_spoiltShare_8 : decode cX3_spoiltShare 8 = .ok (.getfield 94, 3) := by decide +kernel
theorem dX3_spoiltShare_11 : decode cX3_spoiltShare 11 = .ok (.if_icmp .ge 60, 3) := by decide +kernel
theorem dX3_spoiltShare_14 : decode cX3_spoiltShare 14 = .ok (.iload_n 1, 1) := by decide +kernel
theorem dX3_spoiltShare_15 : decode cX3_spoiltShare 15 = .ok (.aload_n 0, 1) := by decide +kernel
theorem dX3_spoiltShare_16 : decode cX3_spoiltShare 16 = .ok (.getfield 45, 3) := by decide +kernel
theorem dX3_spoiltShare_19 : decode cX3_spoiltShare 19 = .ok (.iload_n 3, 1) := by decide +kernel
theorem dX3_spoiltShare_20 : decode cX3_spoiltShare 20 = .ok (.iaload, 1) := by decide +kernel
theorem dX3_spoiltShare_21 : decode cX3_spoiltShare 21 = .ok (.bipush 10, 2) := by decide +kernel
theorem dX3_spoiltShare_23 : decode cX3_spoiltShare 23 = .ok (.if_icmp .lt 30, 3) := by decide +kernel
theorem dX3_spoiltShare_26 : decode cX3_spoiltShare 26 = .ok (.aload_n 0, 1) := by decide +kernel
theorem dX3_spoiltShare_27 : decode cX3_spoiltShare 27 = .ok (.aload_n 0, 1) := by decide +kernel
theorem dX3_spoiltShare_28 : decode cX3_spoiltShare 28 = .ok (.getfield 45, 3) := by decide +kernel
theorem dX3_spoiltShare_31 : decode cX3_spoiltShare 31 = .ok (.iload_n 3, 1) := by decide +kernel
theorem dX3_spoiltShare_32 : decode cX3_spoiltShare 32 = .ok (.iaload, 1) := by decide +kernel
theorem dX3_spoiltShare_33 : decode cX3_spoiltShare 33 = .ok (.bipush 10, 2) := by decide +kernel
theorem dX3_spoiltShare_35 : decode cX3_spoiltShare 35 = .ok (.isub, 1) := by decide +kernel
theorem dX3_spoiltShare_36 : decode cX3_spoiltShare 36 = .ok (.bipush 120, 2) := by decide +kernel
theorem dX3_spoiltShare_38 : decode cX3_spoiltShare 38 = .ok (.invokevirtual 116, 3) := by decide +kernel
theorem dX3_spoiltShare_41 : decode cX3_spoiltShare 41 = .ok (.ifCond .eq 12, 3) := by decide +kernel
theorem dX3_spoiltShare_44 : decode cX3_spoiltShare 44 = .ok (.aload_n 0, 1) := by decide +kernel
theorem dX3_spoiltShare_45 : decode cX3_spoiltShare 45 = .ok (.getfield 38, 3) := by decide +kernel
theorem dX3_spoiltShare_48 : decode cX3_spoiltShare 48 = .ok (.iload_n 3, 1) := by decide +kernel
theorem dX3_spoiltShare_49 : decode cX3_spoiltShare 49 = .ok (.iaload, 1) := by decide +kernel
theorem dX3_spoiltShare_50 : decode cX3_spoiltShare 50 = .ok (.goto 4, 3) := by decide +kernel
theorem dX3_spoiltShare_53 : decode cX3_spoiltShare 53 = .ok (.iconst 0, 1) := by decide +kernel
theorem dX3_spoiltShare_54 : decode cX3_spoiltShare 54 = .ok (.iadd, 1) := by decide +kernel
theorem dX3_spoiltShare_55 : decode cX3_spoiltShare 55 = .ok (.istore_n 1, 1) := by decide +kernel
theorem dX3_spoiltShare_56 : decode cX3_spoiltShare 56 = .ok (.iload_n 2, 1) := by decide +kernel
theorem dX3_spoiltShare_57 : decode cX3_spoiltShare 57 = .ok (.aload_n 0, 1) := by decide +kernel
theorem dX3_spoiltShare_58 : decode cX3_spoiltShare 58 = .ok (.getfield 38, 3) := by decide +kernel
theorem dX3_spoiltShare_61 : decode cX3_spoiltShare 61 = .ok (.iload_n 3, 1) := by decide +kernel
theorem dX3_spoiltShare_62 : decode cX3_spoiltShare 62 = .ok (.iaload, 1) := by decide +kernel
theorem dX3_spoiltShare_63 : decode cX3_spoiltShare 63 = .ok (.iadd, 1) := by decide +kernel
theorem dX3_spoiltShare_64 : decode cX3_spoiltShare 64 = .ok (.istore_n 2, 1) := by decide +kernel
theorem dX3_spoiltShare_65 : decode cX3_spoiltShare 65 = .ok (.iinc 3 1, 3) := by decide +kernel
theorem dX3_spoiltShare_68 : decode cX3_spoiltShare 68 = .ok (.goto (-62), 3) := by decide +kernel
theorem dX3_spoiltShare_71 : decode cX3_spoiltShare 71 = .ok (.aload_n 0, 1) := by decide +kernel
theorem dX3_spoiltShare_72 : decode cX3_spoiltShare 72 = .ok (.aload_n 0, 1) := by decide +kernel
theorem dX3_spoiltShare_73 : decode cX3_spoiltShare 73 = .ok (.getfield 94, 3) := by decide +kernel
theorem dX3_spoiltShare_76 : decode cX3_spoiltShare 76 = .ok (.ifCond .ne 7, 3) := by decide +kernel
theorem dX3_spoiltShare_79 : decode cX3_spoiltShare 79 = .ok (.iconst 1, 1) := by decide +kernel
theorem dX3_spoiltShare_80 : decode cX3_spoiltShare 80 = .ok (.goto 4, 3) := by decide +kernel
theorem dX3_spoiltShare_83 : decode cX3_spoiltShare 83 = .ok (.iconst 0, 1) := by decide +kernel
theorem dX3_spoiltShare_84 : decode cX3_spoiltShare 84 = .ok (.putfield 48, 3) := by decide +kernel
theorem dX3_spoiltShare_87 : decode cX3_spoiltShare 87 = .ok (.aload_n 0, 1) := by decide +kernel
theorem dX3_spoiltShare_88 : decode cX3_spoiltShare 88 = .ok (.getfield 48, 3) := by decide +kernel
theorem dX3_spoiltShare_91 : decode cX3_spoiltShare 91 = .ok (.ifCond .ne 11, 3) := by decide +kernel
theorem dX3_spoiltShare_94 : decode cX3_spoiltShare 94 = .ok (.iload_n 1, 1) := by decide +kernel
theorem dX3_spoiltShare_95 : decode cX3_spoiltShare 95 = .ok (.i2f, 1) := by decide +kernel
theorem dX3_spoiltShare_96 : decode cX3_spoiltShare 96 = .ok (.iload_n 2, 1) := by decide +kernel
theorem dX3_spoiltShare_97 : decode cX3_spoiltShare 97 = .ok (.i2f, 1) := by decide +kernel
theorem dX3_spoiltShare_98 : decode cX3_spoiltShare 98 = .ok (.fdiv, 1) := by decide +kernel
theorem dX3_spoiltShare_99 : decode cX3_spoiltShare 99 = .ok (.goto 4, 3) := by decide +kernel
theorem dX3_spoiltShare_102 : decode cX3_spoiltShare 102 = .ok (.fconst 0, 1) := by decide +kernel
theorem dX3_spoiltShare_103 : decode cX3_spoiltShare 103 = .ok (.freturn, 1) := by decide +kernel
theorem dX3_meanPay_0 : decode cX3_meanPay 0 = .ok (.iconst 0, 1) := by decide +kernel
theorem dX3_meanPay_1 : decode cX3_meanPay 1 = .ok (.istore_n 1, 1) := by decide +kernel
theorem dX3_meanPay_2 : decode cX3_meanPay 2 = .ok (.iconst 0, 1) := by decide +kernel
theorem dX3_meanPay_3 : decode cX3_meanPay 3 = .ok (.istore_n 2, 1) := by decide +kernel
theorem dX3_meanPay_4 : decode cX3_meanPay 4 = .ok (.iconst 0, 1) := by decide +kernel
theorem dX3_meanPay_5 : decode cX3_meanPay 5 = .ok (.istore_n 3, 1) := by decide +kernel
theorem dX3_meanPay_6 : decode cX3_meanPay 6 = .ok (.iload_n 3, 1) := by decide +kernel
theorem dX3_meanPay_7 : decode cX3_meanPay 7 = .ok (.aload_n 0, 1) := by decide +kernel
theorem dX3_meanPay_8 : decode cX3_meanPay 8 = .ok (.getfield 94, 3) := by decide +kernel
theorem dX3_meanPay_11 : decode cX3_meanPay 11 = .ok (.if_icmp .ge 78, 3) := by decide +kernel
theorem dX3_meanPay_14 : decode cX3_meanPay 14 = .ok (.aload_n 0, 1) := by decide +kernel
theorem dX3_meanPay_15 : decode cX3_meanPay 15 = .ok (.getfield 45, 3) := by decide +kernel
theorem dX3_meanPay_18 : decode cX3_meanPay 18 = .ok (.iload_n 3, 1) := by decide +kernel
theorem dX3_meanPay_19 : decode cX3_meanPay 19 = .ok (.iaload, 1) := by decide +kernel
theorem dX3_meanPay_20 : decode cX3_meanPay 20 = .ok (.bipush 10, 2) := by decide +kernel
theorem dX3_meanPay_22 : decode cX3_meanPay 22 = .ok (.if_icmp .lt 23, 3) := by decide +kernel
theorem dX3_meanPay_25 : decode cX3_meanPay 25 = .ok (.aload_n 0, 1) := by decide +kernel
theorem dX3_meanPay_26 : decode cX3_meanPay 26 = .ok (.aload_n 0, 1) := by decide +kernel
theorem dX3_meanPay_27 : decode cX3_meanPay 27 = .ok (.getfield 45, 3) := by decide +kernel
theorem dX3_meanPay_30 : decode cX3_meanPay 30 = .ok (.iload_n 3, 1) := by decide +kernel
theorem dX3_meanPay_31 : decode cX3_meanPay 31 = .ok (.iaload, 1) := by decide +kernel
theorem dX3_meanPay_32 : decode cX3_meanPay 32 = .ok (.bipush 10, 2) := by decide +kernel
theorem dX3_meanPay_34 : decode cX3_meanPay 34 = .ok (.isub, 1) := by decide +kernel
theorem dX3_meanPay_35 : decode cX3_meanPay 35 = .ok (.invokevirtual 126, 3) := by decide +kernel
theorem dX3_meanPay_38 : decode cX3_meanPay 38 = .ok (.ifCond .eq 7, 3) := by decide +kernel
theorem dX3_meanPay_41 : decode cX3_meanPay 41 = .ok (.iconst 1, 1) := by decide +kernel
theorem dX3_meanPay_42 : decode cX3_meanPay 42 = .ok (.goto 4, 3) := by decide +kernel
theorem dX3_meanPay_45 : decode cX3_meanPay 45 = .ok (.iconst 0, 1) := by decide +kernel
theorem dX3_meanPay_46 : decode cX3_meanPay 46 = .ok (.istore 4, 2) := by decide +kernel
theorem dX3_meanPay_48 : decode cX3_meanPay 48 = .ok (.iload_n 1, 1) := by decide +kernel
theorem dX3_meanPay_49 : decode cX3_meanPay 49 = .ok (.iload 4, 2) := by decide +kernel
theorem dX3_meanPay_51 : decode cX3_meanPay 51 = .ok (.ifCond .eq 11, 3) := by decide +kernel
theorem dX3_meanPay_54 : decode cX3_meanPay 54 = .ok (.aload_n 0, 1) := by decide +kernel
theorem dX3_meanPay_55 : decode cX3_meanPay 55 = .ok (.iload_n 3, 1) := by decide +kernel
theorem dX3_meanPay_56 : decode cX3_meanPay 56 = .ok (.invokevirtual 129, 3) := by decide +kernel
theorem dX3_meanPay_59 : decode cX3_meanPay 59 = .ok (.goto 4, 3) := by decide +kernel
theorem dX3_meanPay_62 : decode cX3_meanPay 62 = .ok (.iconst 0, 1) := by decide +kernel
theorem dX3_meanPay_63 : decode cX3_meanPay 63 = .ok (.iadd, 1) := by decide +kernel
theorem dX3_meanPay_64 : decode cX3_meanPay 64 = .ok (.istore_n 1, 1) := by decide +kernel
theorem dX3_meanPay_65 : decode cX3_meanPay 65 = .ok (.iload_n 2, 1) := by decide +kernel
theorem dX3_meanPay_66 : decode cX3_meanPay 66 = .ok (.iload 4, 2) := by decide +kernel
theorem dX3_meanPay_68 : decode cX3_meanPay 68 = .ok (.ifCond .eq 12, 3) := by decide +kernel
theorem dX3_meanPay_71 : decode cX3_meanPay 71 = .ok (.aload_n 0, 1) := by decide +kernel
theorem dX3_meanPay_72 : decode cX3_meanPay 72 = .ok (.getfield 38, 3) := by decide +kernel
theorem dX3_meanPay_75 : decode cX3_meanPay 75 = .ok (.iload_n 3, 1) := by decide +kernel
theorem dX3_meanPay_76 : decode cX3_meanPay 76 = .ok (.iaload, 1) := by decide +kernel
theorem dX3_meanPay_77 : decode cX3_meanPay 77 = .ok (.goto 4, 3) := by decide +kernel
theorem dX3_meanPay_80 : decode cX3_meanPay 80 = .ok (.iconst 0, 1) := by decide +kernel
theorem dX3_meanPay_81 : decode cX3_meanPay 81 = .ok (.iadd, 1) := by decide +kernel
theorem dX3_meanPay_82 : decode cX3_meanPay 82 = .ok (.istore_n 2, 1) := by decide +kernel
theorem dX3_meanPay_83 : decode cX3_meanPay 83 = .ok (.iinc 3 1, 3) := by decide +kernel
theorem dX3_meanPay_86 : decode cX3_meanPay 86 = .ok (.goto (-80), 3) := by decide +kernel
theorem dX3_meanPay_89 : decode cX3_meanPay 89 = .ok (.aload_n 0, 1) := by decide +kernel
theorem dX3_meanPay_90 : decode cX3_meanPay 90 = .ok (.iload_n 2, 1) := by decide +kernel
theorem dX3_meanPay_91 : decode cX3_meanPay 91 = .ok (.ifCond .ne 7, 3) := by decide +kernel
theorem dX3_meanPay_94 : decode cX3_meanPay 94 = .ok (.iconst 1, 1) := by decide +kernel
theorem dX3_meanPay_95 : decode cX3_meanPay 95 = .ok (.goto 4, 3) := by decide +kernel
theorem dX3_meanPay_98 : decode cX3_meanPay 98 = .ok (.iconst 0, 1) := by decide +kernel
theorem dX3_meanPay_99 : decode cX3_meanPay 99 = .ok (.putfield 48, 3) := by decide +kernel
theorem dX3_meanPay_102 : decode cX3_meanPay 102 = .ok (.aload_n 0, 1) := by decide +kernel
theorem dX3_meanPay_103 : decode cX3_meanPay 103 = .ok (.getfield 48, 3) := by decide +kernel
theorem dX3_meanPay_106 : decode cX3_meanPay 106 = .ok (.ifCond .ne 11, 3) := by decide +kernel
theorem dX3_meanPay_109 : decode cX3_meanPay 109 = .ok (.iload_n 1, 1) := by decide +kernel
theorem dX3_meanPay_110 : decode cX3_meanPay 110 = .ok (.i2d, 1) := by decide +kernel
theorem dX3_meanPay_111 : decode cX3_meanPay 111 = .ok (.iload_n 2, 1) := by decide +kernel
theorem dX3_meanPay_112 : decode cX3_meanPay 112 = .ok (.i2d, 1) := by decide +kernel
theorem dX3_meanPay_113 : decode cX3_meanPay 113 = .ok (.ddiv, 1) := by decide +kernel
theorem dX3_meanPay_114 : decode cX3_meanPay 114 = .ok (.goto 4, 3) := by decide +kernel
theorem dX3_meanPay_117 : decode cX3_meanPay 117 = .ok (.dconst 0, 1) := by decide +kernel
theorem dX3_meanPay_118 : decode cX3_meanPay 118 = .ok (.dreturn, 1) := by decide +kernel
