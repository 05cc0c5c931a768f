theorem dX0_init_0 : decode cX0_init 0 = .ok (.aload_n 0, 1) := by decide +kernel
theorem dX0_init_1 : decode cX0_init 1 = .ok (.invokespecial 3, 3) := by decide +kernel
theorem dX0_init_4 : decode cX0_init 4 = .ok (.aload_n 0, 1) := by decide +kernel
theorem dX0_init_5 : decode cX0_init 5 = .ok (.iconst 0, 1) := by decide +kernel
theorem dX0_init_6 : decode cX0_init 6 = .ok (.putfield 9, 3) := by decide +kernel
theorem dX0_init_9 : decode cX0_init 9 = .ok (.aload_n 0, 1) := by decide +kernel
theorem dX0_init_10 : decode cX0_init 10 = .ok (.bipush 6, 2) := by decide +kernel
theorem dX0_init_12 : decode cX0_init 12 = .ok (.newarray .int, 2) := by decide +kernel
theorem dX0_init_14 : decode cX0_init 14 = .ok (.putfield 15, 3) := by decide +kernel
theorem dX0_init_17 : decode cX0_init 17 = .ok (.aload_n 0, 1) := by decide +kernel
theorem dX0_init_18 : decode cX0_init 18 = .ok (.bipush 6, 2) := by decide +kernel
theorem dX0_init_20 : decode cX0_init 20 = .ok (.newarray .int, 2) := by decide +kernel
theorem dX0_init_22 : decode cX0_init 22 = .ok (.putfield 19, 3) := by decide +kernel
theorem dX0_init_25 : decode cX0_init 25 = .ok (.aload_n 0, 1) := by decide +kernel
theorem dX0_init_26 : decode cX0_init 26 = .ok (.bipush 6, 2) := by decide +kernel
theorem dX0_init_28 : decode cX0_init 28 = .ok (.newarray .int, 2) := by decide +kernel
theorem dX0_init_30 : decode cX0_init 30 = .ok (.putfield 22, 3) := by decide +kernel
theorem dX0_init_33 : decode cX0_init 33 = .ok (.aload_n 0, 1) := by decide +kernel
theorem dX0_init_34 : decode cX0_init 34 = .ok (.bipush 6, 2) := by decide +kernel
theorem dX0_init_36 : decode cX0_init 36 = .ok (.iconst 5, 1) := by decide +kernel
theorem dX0_init_37 : decode cX0_init 37 = .ok (.multianewarray 25 2, 4) := by decide +kernel
theorem dX0_init_41 : decode cX0_init 41 = .ok (.putfield 27, 3) := by decide +kernel
theorem dX0_init_44 : decode cX0_init 44 = .ok (.return_, 1) := by decide +kernel
theorem dX0_add_0 : decode cX0_add 0 = .ok (.aload_n 0, 1) := by decide +kernel
theorem dX0_add_1 : decode cX0_add 1 = .ok (.getfield 15, 3) := by decide +kernel
theorem dX0_add_4 : decode cX0_add 4 = .ok (.aload_n 0, 1) := by decide +kernel
theorem dX0_add_5 : decode cX0_add 5 = .ok (.getfield 9, 3) := by decide +kernel
theorem dX0_add_8 : decode cX0_add 8 = .ok (.iload_n 1, 1) := by decide +kernel
theorem dX0_add_9 : decode cX0_add 9 = .ok (.iastore, 1) := by decide +kernel
theorem dX0_add_10 : decode cX0_add 10 = .ok (.aload_n 0, 1) := by decide +kernel
theorem dX0_add_11 : decode cX0_add 11 = .ok (.dup, 1) := by decide +kernel
theorem dX0_add_12 : decode cX0_add 12 = .ok (.getfield 9, 3) := by decide +kernel
theorem dX0_add_15 : decode cX0_add 15 = .ok (.dup_x1, 1) := by decide +kernel
theorem dX0_add_16 : decode cX0_add 16 = .ok (.iconst 1, 1) := by decide +kernel
theorem dX0_add_17 : decode cX0_add 17 = .ok (.iadd, 1) := by decide +kernel
theorem dX0_add_18 : decode cX0_add 18 = .ok (.putfield 9, 3) := by decide +kernel
theorem dX0_add_21 : decode cX0_add 21 = .ok (.ireturn, 1) := by decide +kernel
theorem dX0_addCowTo_0 : decode cX0_addCowTo 0 = .ok (.aload_n 0, 1) := by decide +kernel
theorem dX0_addCowTo_1 : decode cX0_addCowTo 1 = .ok (.getfield 27, 3) := by decide +kernel
theorem dX0_addCowTo_4 : decode cX0_addCowTo 4 = .ok (.iload_n 1, 1) := by decide +kernel
theorem dX0_addCowTo_5 : decode cX0_addCowTo 5 = .ok (.aaload, 1) := by decide +kernel
theorem dX0_addCowTo_6 : decode cX0_addCowTo 6 = .ok (.aload_n 0, 1) := by decide +kernel
theorem dX0_addCowTo_7 : decode cX0_addCowTo 7 = .ok (.getfield 22, 3) := by decide +kernel
theorem dX0_addCowTo_10 : decode cX0_addCowTo 10 = .ok (.iload_n 1, 1) := by decide +kernel
theorem dX0_addCowTo_11 : decode cX0_addCowTo 11 = .ok (.iaload, 1) := by decide +kernel
theorem dX0_addCowTo_12 : decode cX0_addCowTo 12 = .ok (.iload_n 2, 1) := by decide +kernel
theorem dX0_addCowTo_13 : decode cX0_addCowTo 13 = .ok (.iastore, 1) := by decide +kernel
theorem dX0_addCowTo_14 : decode cX0_addCowTo 14 = .ok (.aload_n 0, 1) := by decide +kernel
theorem dX0_addCowTo_15 : decode cX0_addCowTo 15 = .ok (.getfield 22, 3) := by decide +kernel
theorem dX0_addCowTo_18 : decode cX0_addCowTo 18 = .ok (.iload_n 1, 1) := by decide +kernel
theorem dX0_addCowTo_19 : decode cX0_addCowTo 19 = .ok (.dup2, 1) := by decide +kernel
theorem dX0_addCowTo_20 : decode cX0_addCowTo 20 = .ok (.iaload, 1) := by decide +kernel
theorem dX0_addCowTo_21 : decode cX0_addCowTo 21 = .ok (.iconst 1, 1) := by decide +kernel
theorem dX0_addCowTo_22 : decode cX0_addCowTo 22 = .ok (.iadd, 1) := by decide +kernel
theorem dX0_addCowTo_23 : decode cX0_addCowTo 23 = .ok (.iastore, 1) := by decide +kernel
theorem dX0_addCowTo_24 : decode cX0_addCowTo 24 = .ok (.aload_n 0, 1) := by decide +kernel
theorem dX0_addCowTo_25 : decode cX0_addCowTo 25 = .ok (.getfield 22, 3) := by decide +kernel
theorem dX0_addCowTo_28 : decode cX0_addCowTo 28 = .ok (.iload_n 1, 1) := by decide +kernel
theorem dX0_addCowTo_29 : decode cX0_addCowTo 29 = .ok (.iaload, 1) := by decide +kernel
theorem dX0_addCowTo_30 : decode cX0_addCowTo 30 = .ok (.ireturn, 1) := by decide +kernel
theorem dX0_milkOn_0 : decode cX0_milkOn 0 = .ok (.iconst 0, 1) := by decide +kernel
theorem dX0_milkOn_1 : decode cX0_milkOn 1 = .ok (.istore_n 3, 1) := by decide +kernel
theorem dX0_milkOn_2 : decode cX0_milkOn 2 = .ok (.iconst 0, 1) := by decide +kernel
theorem dX0_milkOn_3 : decode cX0_milkOn 3 = .ok (.istore 4, 2) := by decide +kernel
theorem dX0_milkOn_5 : decode cX0_milkOn 5 = .ok (.iload 4, 2) := by decide +kernel
theorem dX0_milkOn_7 : decode cX0_milkOn 7 = .ok (.aload_n 0, 1) := by decide +kernel
theorem dX0_milkOn_8 : decode cX0_milkOn 8 = .ok (.getfield 22, 3) := by decide +kernel
theorem dX0_milkOn_11 : decode cX0_milkOn 11 = .ok (.iload_n 1, 1) := by decide +kernel
theorem dX0_milkOn_12 : decode cX0_milkOn 12 = .ok (.iaload, 1) := by decide +kernel
theorem dX0_milkOn_13 : decode cX0_milkOn 13 = .ok (.if_icmp .ge 25, 3) := by decide +kernel
theorem dX0_milkOn_16 : decode cX0_milkOn 16 = .ok (.iload_n 3, 1) := by decide +kernel
theorem dX0_milkOn_17 : decode cX0_milkOn 17 = .ok (.aload_n 0, 1) := by decide +kernel
theorem dX0_milkOn_18 : decode cX0_milkOn 18 = .ok (.getfield 27, 3) := by decide +kernel
theorem dX0_milkOn_21 : decode cX0_milkOn 21 = .ok (.iload_n 1, 1) := by decide +kernel
theorem dX0_milkOn_22 : decode cX0_milkOn 22 = .ok (.aaload, 1) := by decide +kernel
theorem dX0_milkOn_23 : decode cX0_milkOn 23 = .ok (.iload 4, 2) := by decide +kernel
theorem dX0_milkOn_25 : decode cX0_milkOn 25 = .ok (.iaload, 1) := by decide +kernel
theorem dX0_milkOn_26 : decode cX0_milkOn 26 = .ok (.iload_n 2, 1) := by decide +kernel
theorem dX0_milkOn_27 : decode cX0_milkOn 27 = .ok (.invokestatic 30, 3) := by decide +kernel
theorem dX0_milkOn_30 : decode cX0_milkOn 30 = .ok (.iadd, 1) := by decide +kernel
theorem dX0_milkOn_31 : decode cX0_milkOn 31 = .ok (.istore_n 3, 1) := by decide +kernel
theorem dX0_milkOn_32 : decode cX0_milkOn 32 = .ok (.iinc 4 1, 3) := by decide +kernel
theorem dX0_milkOn_35 : decode cX0_milkOn 35 = .ok (.goto (-30), 3) := by decide +kernel
theorem dX0_milkOn_38 : decode cX0_milkOn 38 = .ok (.iload_n 3, 1) := by decide +kernel
theorem dX0_milkOn_39 : decode cX0_milkOn 39 = .ok (.ireturn, 1) := by decide +kernel
theorem dX0_milkOfCow_0 : decode cX0_milkOfCow 0 = .ok (.iconst 5, 1) := by decide +kernel
theorem dX0_milkOfCow_1 : decode cX0_milkOfCow 1 = .ok (.iload_n 0, 1) := by decide +kernel
theorem dX0_milkOfCow_2 : decode cX0_milkOfCow 2 = .ok (.iconst 5, 1) := by decide +kernel
theorem dX0_milkOfCow_3 : decode cX0_milkOfCow 3 = .ok (.iload_n 1, 1) := by decide +kernel
theorem dX0_milkOfCow_4 : decode cX0_milkOfCow 4 = .ok (.bipush 10, 2) := by decide +kernel
theorem dX0_milkOfCow_6 : decode cX0_milkOfCow 6 = .ok (.irem, 1) := by decide +kernel
theorem dX0_milkOfCow_7 : decode cX0_milkOfCow 7 = .ok (.isub, 1) := by decide +kernel
theorem dX0_milkOfCow_8 : decode cX0_milkOfCow 8 = .ok (.invokestatic 34, 3) := by decide +kernel
theorem dX0_milkOfCow_11 : decode cX0_milkOfCow 11 = .ok (.isub, 1) := by decide +kernel
theorem dX0_milkOfCow_12 : decode cX0_milkOfCow 12 = .ok (.invokestatic 40, 3) := by decide +kernel
theorem dX0_milkOfCow_15 : decode cX0_milkOfCow 15 = .ok (.ireturn, 1) := by decide +kernel
theorem dX0_milkAll_0 : decode cX0_milkAll 0 = .ok (.iconst 0, 1) := by decide +kernel
theorem dX0_milkAll_1 : decode cX0_milkAll 1 = .ok (.istore_n 2, 1) := by decide +kernel
theorem dX0_milkAll_2 : decode cX0_milkAll 2 = .ok (.iconst 0, 1) := by decide +kernel
theorem dX0_milkAll_3 : decode cX0_milkAll 3 = .ok (.istore_n 3, 1) := by decide +kernel
theorem dX0_milkAll_4 : decode cX0_milkAll 4 = .ok (.iload_n 3, 1) := by decide +kernel
theorem dX0_milkAll_5 : decode cX0_milkAll 5 = .ok (.aload_n 0, 1) := by decide +kernel
theorem dX0_milkAll_6 : decode cX0_milkAll 6 = .ok (.getfield 9, 3) := by decide +kernel
theorem dX0_milkAll_9 : decode cX0_milkAll 9 = .ok (.if_icmp .ge 56, 3) := by decide +kernel
theorem dX0_milkAll_12 : decode cX0_milkAll 12 = .ok (.aload_n 0, 1) := by decide +kernel
theorem dX0_milkAll_13 : decode cX0_milkAll 13 = .ok (.iload_n 3, 1) := by decide +kernel
theorem dX0_milkAll_14 : decode cX0_milkAll 14 = .ok (.iload_n 1, 1) := by decide +kernel
theorem dX0_milkAll_15 : decode cX0_milkAll 15 = .ok (.invokevirtual 43, 3) := by decide +kernel
theorem dX0_milkAll_18 : decode cX0_milkAll 18 = .ok (.istore 4, 2) := by decide +kernel
theorem dX0_milkAll_20 : decode cX0_milkAll 20 = .ok (.iload 4, 2) := by decide +kernel
theorem dX0_milkAll_22 : decode cX0_milkAll 22 = .ok (.aload_n 0, 1) := by decide +kernel
theorem dX0_milkAll_23 : decode cX0_milkAll 23 = .ok (.getfield 15, 3) := by decide +kernel
theorem dX0_milkAll_26 : decode cX0_milkAll 26 = .ok (.iload_n 3, 1) := by decide +kernel
theorem dX0_milkAll_27 : decode cX0_milkAll 27 = .ok (.iaload, 1) := by decide +kernel
theorem dX0_milkAll_28 : decode cX0_milkAll 28 = .ok (.aload_n 0, 1) := by decide +kernel
theorem dX0_milkAll_29 : decode cX0_milkAll 29 = .ok (.getfield 19, 3) := by decide +kernel
theorem dX0_milkAll_32 : decode cX0_milkAll 32 = .ok (.iload_n 3, 1) := by decide +kernel
theorem dX0_milkAll_33 : decode cX0_milkAll 33 = .ok (.iaload, 1) := by decide +kernel
theorem dX0_milkAll_34 : decode cX0_milkAll 34 = .ok (.isub, 1) := by decide +kernel
theorem dX0_milkAll_35 : decode cX0_milkAll 35 = .ok (.invokestatic 46, 3) := by decide +kernel
theorem dX0_milkAll_38 : decode cX0_milkAll 38 = .ok (.istore 5, 2) := by decide +kernel
theorem dX0_milkAll_40 : decode cX0_milkAll 40 = .ok (.aload_n 0, 1) := by decide +kernel
theorem dX0_milkAll_41 : decode cX0_milkAll 41 = .ok (.getfield 19, 3) := by decide +kernel
theorem dX0_milkAll_44 : decode cX0_milkAll 44 = .ok (.iload_n 3, 1) := by decide +kernel
theorem dX0_milkAll_45 : decode cX0_milkAll 45 = .ok (.dup2, 1) := by decide +kernel
theorem dX0_milkAll_46 : decode cX0_milkAll 46 = .ok (.iaload, 1) := by decide +kernel
theorem dX0_milkAll_47 : decode cX0_milkAll 47 = .ok (.iload 5, 2) := by decide +kernel
theorem dX0_milkAll_49 : decode cX0_milkAll 49 = .ok (.iadd, 1) := by decide +kernel
theorem dX0_milkAll_50 : decode cX0_milkAll 50 = .ok (.iastore, 1) := by decide +kernel
theorem dX0_milkAll_51 : decode cX0_milkAll 51 = .ok (.iload_n 2, 1) := by decide +kernel
theorem dX0_milkAll_52 : decode cX0_milkAll 52 = .ok (.iload 4, 2) := by decide +kernel
theorem dX0_milkAll_54 : decode cX0_milkAll 54 = .ok (.iload 5, 2) := by decide +kernel
theorem dX0_milkAll_56 : decode cX0_milkAll 56 = .ok (.isub, 1) := by decide +kernel
theorem dX0_milkAll_57 : decode cX0_milkAll 57 = .ok (.iadd, 1) := by decide +kernel
theorem dX0_milkAll_58 : decode cX0_milkAll 58 = .ok (.istore_n 2, 1) := by decide +kernel
theorem dX0_milkAll_59 : decode cX0_milkAll 59 = .ok (.iinc 3 1, 3) := by decide +kernel
theorem dX0_milkAll_62 : decode cX0_milkAll 62 = .ok (.goto (-58), 3) := by decide +kernel
theorem dX0_milkAll_65 : decode cX0_milkAll 65 = .ok (.iload_n 2, 1) := by decide +kernel
theorem dX0_milkAll_66 : decode cX0_milkAll 66 = .ok (.ireturn, 1) := by decide +kernel
theorem dX0_draw_0 : decode cX0_draw 0 = .ok (.aload_n 0, 1) := by decide +kernel
theorem dX0_draw_1 : decode cX0_draw 1 = .ok (.getfield 19, 3) := by decide +kernel
theorem dX0_draw_4 : decode cX0_draw 4 = .ok (.iload_n 1, 1) := by decide +kernel
theorem dX0_draw_5 : decode cX0_draw 5 = .ok (.iaload, 1) := by decide +kernel
theorem dX0_draw_6 : decode cX0_draw 6 = .ok (.iload_n 2, 1) := by decide +kernel
theorem dX0_draw_7 : decode cX0_draw 7 = .ok (.invokestatic 46, 3) := by decide +kernel
theorem dX0_draw_10 : decode cX0_draw 10 = .ok (.istore_n 3, 1) := by decide +kernel
theorem dX0_draw_11 : decode cX0_draw 11 = .ok (.aload_n 0, 1) := by decide +kernel
theorem dX0_draw_12 : decode cX0_draw 12 = .ok (.getfield 19, 3) := by decide +kernel
theorem dX0_draw_15 : decode cX0_draw 15 = .ok (.iload_n 1, 1) := by decide +kernel
theorem dX0_draw_16 : decode cX0_draw 16 = .ok (.dup2, 1) := by decide +kernel
theorem dX0_draw_17 : decode cX0_draw 17 = .ok (.iaload, 1) := by decide +kernel
theorem dX0_draw_18 : decode cX0_draw 18 = .ok (.iload_n 3, 1) := by decide +kernel
theorem dX0_draw_19 : decode cX0_draw 19 = .ok (.isub, 1) := by decide +kernel
theorem dX0_draw_20 : decode cX0_draw 20 = .ok (.iastore, 1) := by decide +kernel
theorem dX0_draw_21 : decode cX0_draw 21 = .ok (.iload_n 3, 1) := by decide +kernel
theorem dX0_draw_22 : decode cX0_draw 22 = .ok (.ireturn, 1) := by decide +kernel
theorem dX1_init_0 : decode cX1_init 0 = .ok (.aload_n 0, 1) := by decide +kernel
theorem dX1_init_1 : decode cX1_init 1 = .ok (.invokespecial 3, 3) := by decide +kernel
theorem dX1_init_4 : decode cX1_init 4 = .ok (.aload_n 0, 1) := by decide +kernel
theorem dX1_init_5 : decode cX1_init 5 = .ok (.iconst 0, 1) := by decide +kernel
theorem dX1_init_6 : decode cX1_init 6 = .ok (.putfield 9, 3) := by decide +kernel
theorem dX1_init_9 : decode cX1_init 9 = .ok (.aload_n 0, 1) := by decide +kernel
theorem dX1_init_10 : decode cX1_init 10 = .ok (.bipush 100, 2) := by decide +kernel
theorem dX1_init_12 : decode cX1_init 12 = .ok (.newarray .int, 2) := by decide +kernel
theorem dX1_init_14 : decode cX1_init 14 = .ok (.putfield 15, 3) := by decide +kernel
theorem dX1_init_17 : decode cX1_init 17 = .ok (.aload_n 0, 1) := by decide +kernel
theorem dX1_init_18 : decode cX1_init 18 = .ok (.bipush 100, 2) := by decide +kernel
theorem dX1_init_20 : decode cX1_init 20 = .ok (.newarray .int, 2) := by decide +kernel
theorem dX1_init_22 : decode cX1_init 22 = .ok (.putfield 19, 3) := by decide +kernel
theorem dX1_init_25 : decode cX1_init 25 = .ok (.aload_n 0, 1) := by decide +kernel
theorem dX1_init_26 : decode cX1_init 26 = .ok (.bipush 100, 2) := by decide +kernel
theorem dX1_init_28 : decode cX1_init 28 = .ok (.newarray .char, 2) := by decide +kernel
theorem dX1_init_30 : decode cX1_init 30 = .ok (.putfield 22, 3) := by decide +kernel
theorem dX1_init_33 : decode cX1_init 33 = .ok (.aload_n 0, 1) := by decide +kernel
theorem dX1_init_34 : decode cX1_init 34 = .ok (.bipush 100, 2) := by decide +kernel
theorem dX1_init_36 : decode cX1_init 36 = .ok (.newarray .char, 2) := by decide +kernel
theorem dX1_init_38 : decode cX1_init 38 = .ok (.putfield 26, 3) := by decide +kernel
theorem dX1_init_41 : decode cX1_init 41 = .ok (.aload_n 0, 1) := by decide +kernel
theorem dX1_init_42 : decode cX1_init 42 = .ok (.bipush 100, 2) := by decide +kernel
theorem dX1_init_44 : decode cX1_init 44 = .ok (.newarray .int, 2) := by decide +kernel
theorem dX1_init_46 : decode cX1_init 46 = .ok (.putfield 29, 3) := by decide +kernel
theorem dX1_init_49 : decode cX1_init 49 = .ok (.aload_n 0, 1) := by decide +kernel
theorem dX1_init_50 : decode cX1_init 50 = .ok (.bipush 100, 2) := by decide +kernel
theorem dX1_init_52 : decode cX1_init 52 = .ok (.newarray .int, 2) := by decide +kernel
theorem dX1_init_54 : decode cX1_init 54 = .ok (.putfield 32, 3) := by decide +kernel
theorem dX1_init_57 : decode cX1_init 57 = .ok (.aload_n 0, 1) := by decide +kernel
theorem dX1_init_58 : decode cX1_init 58 = .ok (.bipush 100, 2) := by decide +kernel
theorem dX1_init_60 : decode cX1_init 60 = .ok (.newarray .int, 2) := by decide +kernel
theorem dX1_init_62 : decode cX1_init 62 = .ok (.putfield 35, 3) := by decide +kernel
theorem dX1_init_65 : decode cX1_init 65 = .ok (.return_, 1) := by decide +kernel
theorem dX1_add_0 : decode cX1_add 0 = .ok (.aload_n 0, 1) := by decide +kernel
theorem dX1_add_1 : decode cX1_add 1 = .ok (.getfield 15, 3) := by decide +kernel
theorem dX1_add_4 : decode cX1_add 4 = .ok (.aload_n 0, 1) := by decide +kernel
theorem dX1_add_5 : decode cX1_add 5 = .ok (.getfield 9, 3) := by decide +kernel
theorem dX1_add_8 : decode cX1_add 8 = .ok (.iload_n 1, 1) := by decide +kernel
theorem dX1_add_9 : decode cX1_add 9 = .ok (.iastore, 1) := by decide +kernel
theorem dX1_add_10 : decode cX1_add 10 = .ok (.aload_n 0, 1) := by decide +kernel
theorem dX1_add_11 : decode cX1_add 11 = .ok (.getfield 19, 3) := by decide +kernel
theorem dX1_add_14 : decode cX1_add 14 = .ok (.aload_n 0, 1) := by decide +kernel
theorem dX1_add_15 : decode cX1_add 15 = .ok (.getfield 9, 3) := by decide +kernel
theorem dX1_add_18 : decode cX1_add 18 = .ok (.iload_n 2, 1) := by decide +kernel
theorem dX1_add_19 : decode cX1_add 19 = .ok (.iastore, 1) := by decide +kernel
theorem dX1_add_20 : decode cX1_add 20 = .ok (.aload_n 0, 1) := by decide +kernel
theorem dX1_add_21 : decode cX1_add 21 = .ok (.getfield 22, 3) := by decide +kernel
theorem dX1_add_24 : decode cX1_add 24 = .ok (.aload_n 0, 1) := by decide +kernel
theorem dX1_add_25 : decode cX1_add 25 = .ok (.getfield 9, 3) := by decide +kernel
theorem dX1_add_28 : decode cX1_add 28 = .ok (.bipush 45, 2) := by decide +kernel
theorem dX1_add_30 : decode cX1_add 30 = .ok (.castore, 1) := by decide +kernel
theorem dX1_add_31 : decode cX1_add 31 = .ok (.aload_n 0, 1) := by decide +kernel
theorem dX1_add_32 : decode cX1_add 32 = .ok (.getfield 26, 3) := by decide +kernel
theorem dX1_add_35 : decode cX1_add 35 = .ok (.aload_n 0, 1) := by decide +kernel
theorem dX1_add_36 : decode cX1_add 36 = .ok (.getfield 9, 3) := by decide +kernel
theorem dX1_add_39 : decode cX1_add 39 = .ok (.bipush 116, 2) := by decide +kernel
theorem dX1_add_41 : decode cX1_add 41 = .ok (.castore, 1) := by decide +kernel
theorem dX1_add_42 : decode cX1_add 42 = .ok (.aload_n 0, 1) := by decide +kernel
theorem dX1_add_43 : decode cX1_add 43 = .ok (.getfield 29, 3) := by decide +kernel
theorem dX1_add_46 : decode cX1_add 46 = .ok (.aload_n 0, 1) := by decide +kernel
theorem dX1_add_47 : decode cX1_add 47 = .ok (.getfield 9, 3) := by decide +kernel
theorem dX1_add_50 : decode cX1_add 50 = .ok (.iconst 0, 1) := by decide +kernel
theorem dX1_add_51 : decode cX1_add 51 = .ok (.iastore, 1) := by decide +kernel
theorem dX1_add_52 : decode cX1_add 52 = .ok (.aload_n 0, 1) := by decide +kernel
theorem dX1_add_53 : decode cX1_add 53 = .ok (.dup, 1) := by decide +kernel
theorem dX1_add_54 : decode cX1_add 54 = .ok (.getfield 9, 3) := by decide +kernel
theorem dX1_add_57 : decode cX1_add 57 = .ok (.iconst 1, 1) := by decide +kernel
theorem dX1_add_58 : decode cX1_add 58 = .ok (.iadd, 1) := by decide +kernel
theorem dX1_add_59 : decode cX1_add 59 = .ok (.putfield 9, 3) := by decide +kernel
theorem dX1_add_62 : decode cX1_add 62 = .ok (.return_, 1) := by decide +kernel
theorem dX1_isIn_0 : decode cX1_isIn 0 = .ok (.aload_n 0, 1) := by decide +kernel
theorem dX1_isIn_1 : decode cX1_isIn 1 = .ok (.getfield 26, 3) := by decide +kernel
theorem dX1_isIn_4 : decode cX1_isIn 4 = .ok (.iload_n 1, 1) := by decide +kernel
theorem dX1_isIn_5 : decode cX1_isIn 5 = .ok (.caload, 1) := by decide +kernel
theorem dX1_isIn_6 : decode cX1_isIn 6 = .ok (.iload_n 2, 1) := by decide +kernel
theorem dX1_isIn_7 : decode cX1_isIn 7 = .ok (.if_icmp .ne 17, 3) := by decide +kernel
theorem dX1_isIn_10 : decode cX1_isIn 10 = .ok (.aload_n 0, 1) := by decide +kernel
theorem dX1_isIn_11 : decode cX1_isIn 11 = .ok (.getfield 29, 3) := by decide +kernel
theorem dX1_isIn_14 : decode cX1_isIn 14 = .ok (.iload_n 1, 1) := by decide +kernel
theorem dX1_isIn_15 : decode cX1_isIn 15 = .ok (.iaload, 1) := by decide +kernel
theorem dX1_isIn_16 : decode cX1_isIn 16 = .ok (.iload_n 3, 1) := by decide +kernel
theorem dX1_isIn_17 : decode cX1_isIn 17 = .ok (.if_icmp .ne 7, 3) := by decide +kernel
theorem dX1_isIn_20 : decode cX1_isIn 20 = .ok (.iconst 1, 1) := by decide +kernel
theorem dX1_isIn_21 : decode cX1_isIn 21 = .ok (.goto 4, 3) := by decide +kernel
theorem dX1_isIn_24 : decode cX1_isIn 24 = .ok (.iconst 0, 1) := by decide +kernel
theorem dX1_isIn_25 : decode cX1_isIn 25 = .ok (.ireturn, 1) := by decide +kernel
theorem dX1_move_0 : decode cX1_move 0 = .ok (.iconst 0, 1) := by decide +kernel
theorem dX1_move_1 : decode cX1_move 1 = .ok (.istore 5, 2) := by decide +kernel
theorem dX1_move_3 : decode cX1_move 3 = .ok (.iload 5, 2) := by decide +kernel
theorem dX1_move_5 : decode cX1_move 5 = .ok (.aload_n 0, 1) := by decide +kernel
theorem dX1_move_6 : decode cX1_move 6 = .ok (.getfield 9, 3) := by decide +kernel
theorem dX1_move_9 : decode cX1_move 9 = .ok (.if_icmp .ge 37, 3) := by decide +kernel
theorem dX1_move_12 : decode cX1_move 12 = .ok (.aload_n 0, 1) := by decide +kernel
theorem dX1_move_13 : decode cX1_move 13 = .ok (.iload 5, 2) := by decide +kernel
theorem dX1_move_15 : decode cX1_move 15 = .ok (.iload_n 1, 1) := by decide +kernel
theorem dX1_move_16 : decode cX1_move 16 = .ok (.iload_n 2, 1) := by decide +kernel
theorem dX1_move_17 : decode cX1_move 17 = .ok (.invokevirtual 38, 3) := by decide +kernel
theorem dX1_move_20 : decode cX1_move 20 = .ok (.ifCond .eq 20, 3) := by decide +kernel
theorem dX1_move_23 : decode cX1_move 23 = .ok (.aload_n 0, 1) := by decide +kernel
theorem dX1_move_24 : decode cX1_move 24 = .ok (.getfield 26, 3) := by decide +kernel
theorem dX1_move_27 : decode cX1_move 27 = .ok (.iload 5, 2) := by decide +kernel
theorem dX1_move_29 : decode cX1_move 29 = .ok (.iload_n 3, 1) := by decide +kernel
theorem dX1_move_30 : decode cX1_move 30 = .ok (.castore, 1) := by decide +kernel
theorem dX1_move_31 : decode cX1_move 31 = .ok (.aload_n 0, 1) := by decide +kernel
theorem dX1_move_32 : decode cX1_move 32 = .ok (.getfield 29, 3) := by decide +kernel
theorem dX1_move_35 : decode cX1_move 35 = .ok (.iload 5, 2) := by decide +kernel
theorem dX1_move_37 : decode cX1_move 37 = .ok (.iload 4, 2) := by decide +kernel
theorem dX1_move_39 : decode cX1_move 39 = .ok (.iastore, 1) := by decide +kernel
theorem dX1_move_40 : decode cX1_move 40 = .ok (.iinc 5 1, 3) := by decide +kernel
theorem dX1_move_43 : decode cX1_move 43 = .ok (.goto (-40), 3) := by decide +kernel
theorem dX1_move_46 : decode cX1_move 46 = .ok (.return_, 1) := by decide +kernel
theorem dX1_countIn_0 : decode cX1_countIn 0 = .ok (.iconst 0, 1) := by decide +kernel
theorem dX1_countIn_1 : decode cX1_countIn 1 = .ok (.istore_n 3, 1) := by decide +kernel
theorem dX1_countIn_2 : decode cX1_countIn 2 = .ok (.iconst 0, 1) := by decide +kernel
theorem dX1_countIn_3 : decode cX1_countIn 3 = .ok (.istore 4, 2) := by decide +kernel
theorem dX1_countIn_5 : decode cX1_countIn 5 = .ok (.iload 4, 2) := by decide +kernel
theorem dX1_countIn_7 : decode cX1_countIn 7 = .ok (.aload_n 0, 1) := by decide +kernel
theorem dX1_countIn_8 : decode cX1_countIn 8 = .ok (.getfield 9, 3) := by decide +kernel
theorem dX1_countIn_11 : decode cX1_countIn 11 = .ok (.if_icmp .ge 23, 3) := by decide +kernel
theorem dX1_countIn_14 : decode cX1_countIn 14 = .ok (.aload_n 0, 1) := by decide +kernel
theorem dX1_countIn_15 : decode cX1_countIn 15 = .ok (.iload 4, 2) := by decide +kernel
theorem dX1_countIn_17 : decode cX1_countIn 17 = .ok (.iload_n 1, 1) := by decide +kernel
theorem dX1_countIn_18 : decode cX1_countIn 18 = .ok (.iload_n 2, 1) := by decide +kernel
theorem dX1_countIn_19 : decode cX1_countIn 19 = .ok (.invokevirtual 38, 3) := by decide +kernel
theorem dX1_countIn_22 : decode cX1_countIn 22 = .ok (.ifCond .eq 6, 3) := by decide +kernel
theorem dX1_countIn_25 : decode cX1_countIn 25 = .ok (.iinc 3 1, 3) := by decide +kernel
theorem dX1_countIn_28 : decode cX1_countIn 28 = .ok (.iinc 4 1, 3) := by decide +kernel
theorem dX1_countIn_31 : decode cX1_countIn 31 = .ok (.goto (-26), 3) := by decide +kernel
theorem dX1_countIn_34 : decode cX1_countIn 34 = .ok (.iload_n 3, 1) := by decide +kernel
theorem dX1_countIn_35 : decode cX1_countIn 35 = .ok (.ireturn, 1) := by decide +kernel
theorem dX1_litresIn_0 : decode cX1_litresIn 0 = .ok (.iconst 0, 1) := by decide +kernel
theorem dX1_litresIn_1 : decode cX1_litresIn 1 = .ok (.istore_n 3, 1) := by decide +kernel
theorem dX1_litresIn_2 : decode cX1_litresIn 2 = .ok (.iconst 0, 1) := by decide +kernel
theorem dX1_litresIn_3 : decode cX1_litresIn 3 = .ok (.istore 4, 2) := by decide +kernel
theorem dX1_litresIn_5 : decode cX1_litresIn 5 = .ok (.iload 4, 2) := by decide +kernel
theorem dX1_litresIn_7 : decode cX1_litresIn 7 = .ok (.aload_n 0, 1) := by decide +kernel
theorem dX1_litresIn_8 : decode cX1_litresIn 8 = .ok (.getfield 9, 3) := by decide +kernel
theorem dX1_litresIn_11 : decode cX1_litresIn 11 = .ok (.if_icmp .ge 30, 3) := by decide +kernel
theorem dX1_litresIn_14 : decode cX1_litresIn 14 = .ok (.aload_n 0, 1) := by decide +kernel
theorem dX1_litresIn_15 : decode cX1_litresIn 15 = .ok (.iload 4, 2) := by decide +kernel
theorem dX1_litresIn_17 : decode cX1_litresIn 17 = .ok (.iload_n 1, 1) := by decide +kernel
theorem dX1_litresIn_18 : decode cX1_litresIn 18 = .ok (.iload_n 2, 1) := by decide +kernel
theorem dX1_litresIn_19 : decode cX1_litresIn 19 = .ok (.invokevirtual 38, 3) := by decide +kernel
theorem dX1_litresIn_22 : decode cX1_litresIn 22 = .ok (.ifCond .eq 13, 3) := by decide +kernel
theorem dX1_litresIn_25 : decode cX1_litresIn 25 = .ok (.iload_n 3, 1) := by decide +kernel
theorem dX1_litresIn_26 : decode cX1_litresIn 26 = .ok (.aload_n 0, 1) := by decide +kernel
theorem dX1_litresIn_27 : decode cX1_litresIn 27 = .ok (.getfield 19, 3) := by decide +kernel
theorem dX1_litresIn_30 : decode cX1_litresIn 30 = .ok (.iload 4, 2) := by decide +kernel
theorem dX1_litresIn_32 : decode cX1_litresIn 32 = .ok (.iaload, 1) := by decide +kernel
theorem dX1_litresIn_33 : decode cX1_litresIn 33 = .ok (.iadd, 1) := by decide +kernel
theorem dX1_litresIn_34 : decode cX1_litresIn 34 = .ok (.istore_n 3, 1) := by decide +kernel
theorem dX1_litresIn_35 : decode cX1_litresIn 35 = .ok (.iinc 4 1, 3) := by decide +kernel
theorem dX1_litresIn_38 : decode cX1_litresIn 38 = .ok (.goto (-33), 3) := by decide +kernel
theorem dX1_litresIn_41 : decode cX1_litresIn 41 = .ok (.iload_n 3, 1) := by decide +kernel
theorem dX1_litresIn_42 : decode cX1_litresIn 42 = .ok (.ireturn, 1) := by decide +kernel
theorem dX1_allLitres_0 : decode cX1_allLitres 0 = .ok (.iconst 0, 1) := by decide +kernel
theorem dX1_allLitres_1 : decode cX1_allLitres 1 = .ok (.istore_n 1, 1) := by decide +kernel
theorem dX1_allLitres_2 : decode cX1_allLitres 2 = .ok (.iconst 0, 1) := by decide +kernel
theorem dX1_allLitres_3 : decode cX1_allLitres 3 = .ok (.istore_n 2, 1) := by decide +kernel
theorem dX1_allLitres_4 : decode cX1_allLitres 4 = .ok (.iload_n 2, 1) := by decide +kernel
theorem dX1_allLitres_5 : decode cX1_allLitres 5 = .ok (.aload_n 0, 1) := by decide +kernel
theorem dX1_allLitres_6 : decode cX1_allLitres 6 = .ok (.getfield 9, 3) := by decide +kernel
theorem dX1_allLitres_9 : decode cX1_allLitres 9 = .ok (.if_icmp .ge 18, 3) := by decide +kernel
theorem dX1_allLitres_12 : decode cX1_allLitres 12 = .ok (.iload_n 1, 1) := by decide +kernel
theorem dX1_allLitres_13 : decode cX1_allLitres 13 = .ok (.aload_n 0, 1) := by decide +kernel
theorem dX1_allLitres_14 : decode cX1_allLitres 14 = .ok (.getfield 19, 3) := by decide +kernel
theorem dX1_allLitres_17 : decode cX1_allLitres 17 = .ok (.iload_n 2, 1) := by decide +kernel
theorem dX1_allLitres_18 : decode cX1_allLitres 18 = .ok (.iaload, 1) := by decide +kernel
theorem dX1_allLitres_19 : decode cX1_allLitres 19 = .ok (.iadd, 1) := by decide +kernel
theorem dX1_allLitres_20 : decode cX1_allLitres 20 = .ok (.istore_n 1, 1) := by decide +kernel
theorem dX1_allLitres_21 : decode cX1_allLitres 21 = .ok (.iinc 2 1, 3) := by decide +kernel
theorem dX1_allLitres_24 : decode cX1_allLitres 24 = .ok (.goto (-20), 3) := by decide +kernel
theorem dX1_allLitres_27 : decode cX1_allLitres 27 = .ok (.iload_n 1, 1) := by decide +kernel
theorem dX1_allLitres_28 : decode cX1_allLitres 28 = .ok (.ireturn, 1) := by decide +kernel
theorem dX1_ungraded_0 : decode cX1_ungraded 0 = .ok (.iconst 0, 1) := by decide +kernel
theorem dX1_ungraded_1 : decode cX1_ungraded 1 = .ok (.istore_n 1, 1) := by decide +kernel
theorem dX1_ungraded_2 : decode cX1_ungraded 2 = .ok (.iconst 0, 1) := by decide +kernel
theorem dX1_ungraded_3 : decode cX1_ungraded 3 = .ok (.istore_n 2, 1) := by decide +kernel
theorem dX1_ungraded_4 : decode cX1_ungraded 4 = .ok (.iload_n 2, 1) := by decide +kernel
theorem dX1_ungraded_5 : decode cX1_ungraded 5 = .ok (.aload_n 0, 1) := by decide +kernel
theorem dX1_ungraded_6 : decode cX1_ungraded 6 = .ok (.getfield 9, 3) := by decide +kernel
theorem dX1_ungraded_9 : decode cX1_ungraded 9 = .ok (.if_icmp .ge 23, 3) := by decide +kernel
theorem dX1_ungraded_12 : decode cX1_ungraded 12 = .ok (.aload_n 0, 1) := by decide +kernel
theorem dX1_ungraded_13 : decode cX1_ungraded 13 = .ok (.getfield 22, 3) := by decide +kernel
theorem dX1_ungraded_16 : decode cX1_ungraded 16 = .ok (.iload_n 2, 1) := by decide +kernel
theorem dX1_ungraded_17 : decode cX1_ungraded 17 = .ok (.caload, 1) := by decide +kernel
theorem dX1_ungraded_18 : decode cX1_ungraded 18 = .ok (.bipush 45, 2) := by decide +kernel
theorem dX1_ungraded_20 : decode cX1_ungraded 20 = .ok (.if_icmp .ne 6, 3) := by decide +kernel
theorem dX1_ungraded_23 : decode cX1_ungraded 23 = .ok (.iinc 1 1, 3) := by decide +kernel
theorem dX1_ungraded_26 : decode cX1_ungraded 26 = .ok (.iinc 2 1, 3) := by decide +kernel
theorem dX1_ungraded_29 : decode cX1_ungraded 29 = .ok (.goto (-25), 3) := by decide +kernel
theorem dX1_ungraded_32 : decode cX1_ungraded 32 = .ok (.iload_n 1, 1) := by decide +kernel
theorem dX1_ungraded_33 : decode cX1_ungraded 33 = .ok (.ireturn, 1) := by decide +kernel
theorem dX1_shareAt_0 : decode cX1_shareAt 0 = .ok (.iconst 0, 1) := by decide +kernel
theorem dX1_shareAt_1 : decode cX1_shareAt 1 = .ok (.istore_n 3, 1) := by decide +kernel
theorem dX1_shareAt_2 : decode cX1_shareAt 2 = .ok (.iconst 0, 1) := by decide +kernel
theorem dX1_shareAt_3 : decode cX1_shareAt 3 = .ok (.istore 4, 2) := by decide +kernel
theorem dX1_shareAt_5 : decode cX1_shareAt 5 = .ok (.iload 4, 2) := by decide +kernel
theorem dX1_shareAt_7 : decode cX1_shareAt 7 = .ok (.aload_n 0, 1) := by decide +kernel
theorem dX1_shareAt_8 : decode cX1_shareAt 8 = .ok (.getfield 9, 3) := by decide +kernel
theorem dX1_shareAt_11 : decode cX1_shareAt 11 = .ok (.if_icmp .ge 32, 3) := by decide +kernel
theorem dX1_shareAt_14 : decode cX1_shareAt 14 = .ok (.aload_n 0, 1) := by decide +kernel
theorem dX1_shareAt_15 : decode cX1_shareAt 15 = .ok (.iload 4, 2) := by decide +kernel
theorem dX1_shareAt_17 : decode cX1_shareAt 17 = .ok (.bipush 98, 2) := by decide +kernel
theorem dX1_shareAt_19 : decode cX1_shareAt 19 = .ok (.iload_n 1, 1) := by decide +kernel
theorem dX1_shareAt_20 : decode cX1_shareAt 20 = .ok (.invokevirtual 38, 3) := by decide +kernel
theorem dX1_shareAt_23 : decode cX1_shareAt 23 = .ok (.ifCond .eq 14, 3) := by decide +kernel
theorem dX1_shareAt_26 : decode cX1_shareAt 26 = .ok (.iload_n 3, 1) := by decide +kernel
theorem dX1_shareAt_27 : decode cX1_shareAt 27 = .ok (.iload_n 2, 1) := by decide +kernel
theorem dX1_shareAt_28 : decode cX1_shareAt 28 = .ok (.if_icmp .ne 6, 3) := by decide +kernel
theorem dX1_shareAt_31 : decode cX1_shareAt 31 = .ok (.iload 4, 2) := by decide +kernel
theorem dX1_shareAt_33 : decode cX1_shareAt 33 = .ok (.ireturn, 1) := by decide +kernel
theorem dX1_shareAt_34 : decode cX1_shareAt 34 = .ok (.iinc 3 1, 3) := by decide +kernel
theorem dX1_shareAt_37 : decode cX1_shareAt 37 = .ok (.iinc 4 1, 3) := by decide +kernel
theorem dX1_shareAt_40 : decode cX1_shareAt 40 = .ok (.goto (-35), 3) := by decide +kernel
theorem dX1_shareAt_43 : decode cX1_shareAt 43 = .ok (.iconst (-1), 1) := by decide +kernel
theorem dX1_shareAt_44 : decode cX1_shareAt 44 = .ok (.ireturn, 1) := by decide +kernel
theorem dX1_isGraded_0 : decode cX1_isGraded 0 = .ok (.iconst 0, 1) := by decide +kernel
theorem dX1_isGraded_1 : decode cX1_isGraded 1 = .ok (.istore_n 2, 1) := by decide +kernel
theorem dX1_isGraded_2 : decode cX1_isGraded 2 = .ok (.iload_n 2, 1) := by decide +kernel
theorem dX1_isGraded_3 : decode cX1_isGraded 3 = .ok (.aload_n 0, 1) := by decide +kernel
theorem dX1_isGraded_4 : decode cX1_isGraded 4 = .ok (.getfield 9, 3) := by decide +kernel
theorem dX1_isGraded_7 : decode cX1_isGraded 7 = .ok (.if_icmp .ge 33, 3) := by decide +kernel
theorem dX1_isGraded_10 : decode cX1_isGraded 10 = .ok (.aload_n 0, 1) := by decide +kernel
theorem dX1_isGraded_11 : decode cX1_isGraded 11 = .ok (.getfield 22, 3) := by decide +kernel
theorem dX1_isGraded_14 : decode cX1_isGraded 14 = .ok (.iload_n 2, 1) := by decide +kernel
theorem dX1_isGraded_15 : decode cX1_isGraded 15 = .ok (.caload, 1) := by decide +kernel
theorem dX1_isGraded_16 : decode cX1_isGraded 16 = .ok (.bipush 45, 2) := by decide +kernel
theorem dX1_isGraded_18 : decode cX1_isGraded 18 = .ok (.if_icmp .ne 16, 3) := by decide +kernel
theorem dX1_isGraded_21 : decode cX1_isGraded 21 = .ok (.aload_n 0, 1) := by decide +kernel
theorem dX1_isGraded_22 : decode cX1_isGraded 22 = .ok (.iload_n 2, 1) := by decide +kernel
theorem dX1_isGraded_23 : decode cX1_isGraded 23 = .ok (.bipush 98, 2) := by decide +kernel
theorem dX1_isGraded_25 : decode cX1_isGraded 25 = .ok (.iload_n 1, 1) := by decide +kernel
theorem dX1_isGraded_26 : decode cX1_isGraded 26 = .ok (.invokevirtual 38, 3) := by decide +kernel
theorem dX1_isGraded_29 : decode cX1_isGraded 29 = .ok (.ifCond .eq 5, 3) := by decide +kernel
theorem dX1_isGraded_32 : decode cX1_isGraded 32 = .ok (.iconst 0, 1) := by decide +kernel
theorem dX1_isGraded_33 : decode cX1_isGraded 33 = .ok (.ireturn, 1) := by decide +kernel
theorem dX1_isGraded_34 : decode cX1_isGraded 34 = .ok (.iinc 2 1, 3) := by decide +kernel
theorem dX1_isGraded_37 : decode cX1_isGraded 37 = .ok (.goto (-35), 3) := by decide +kernel
theorem dX1_isGraded_40 : decode cX1_isGraded 40 = .ok (.iconst 1, 1) := by decide +kernel
theorem dX1_isGraded_41 : decode cX1_isGraded 41 = .ok (.ireturn, 1) := by decide +kernel
theorem dX1_isSpoilt_0 : decode cX1_isSpoilt 0 = .ok (.aload_n 0, 1) := by decide +kernel
theorem dX1_isSpoilt_1 : decode cX1_isSpoilt 1 = .ok (.iload_n 1, 1) := by decide +kernel
theorem dX1_isSpoilt_2 : decode cX1_isSpoilt 2 = .ok (.invokevirtual 42, 3) := by decide +kernel
theorem dX1_isSpoilt_5 : decode cX1_isSpoilt 5 = .ok (.ifCond .le 7, 3) := by decide +kernel
theorem dX1_isSpoilt_8 : decode cX1_isSpoilt 8 = .ok (.iconst 1, 1) := by decide +kernel
theorem dX1_isSpoilt_9 : decode cX1_isSpoilt 9 = .ok (.goto 4, 3) := by decide +kernel
theorem dX1_isSpoilt_12 : decode cX1_isSpoilt 12 = .ok (.iconst 0, 1) := by decide +kernel
theorem dX1_isSpoilt_13 : decode cX1_isSpoilt 13 = .ok (.ireturn, 1) := by decide +kernel
theorem dX1_isSpoiltIn_0 : decode cX1_isSpoiltIn 0 = .ok (.aload_n 0, 1) := by decide +kernel
theorem dX1_isSpoiltIn_1 : decode cX1_isSpoiltIn 1 = .ok (.getfield 22, 3) := by decide +kernel
theorem dX1_isSpoiltIn_4 : decode cX1_isSpoiltIn 4 = .ok (.iload_n 1, 1) := by decide +kernel
theorem dX1_isSpoiltIn_5 : decode cX1_isSpoiltIn 5 = .ok (.caload, 1) := by decide +kernel
theorem dX1_isSpoiltIn_6 : decode cX1_isSpoiltIn 6 = .ok (.bipush 120, 2) := by decide +kernel
theorem dX1_isSpoiltIn_8 : decode cX1_isSpoiltIn 8 = .ok (.if_icmp .ne 18, 3) := by decide +kernel
theorem dX1_isSpoiltIn_11 : decode cX1_isSpoiltIn 11 = .ok (.aload_n 0, 1) := by decide +kernel
theorem dX1_isSpoiltIn_12 : decode cX1_isSpoiltIn 12 = .ok (.iload_n 1, 1) := by decide +kernel
theorem dX1_isSpoiltIn_13 : decode cX1_isSpoiltIn 13 = .ok (.bipush 98, 2) := by decide +kernel
theorem dX1_isSpoiltIn_15 : decode cX1_isSpoiltIn 15 = .ok (.iload_n 2, 1) := by decide +kernel
theorem dX1_isSpoiltIn_16 : decode cX1_isSpoiltIn 16 = .ok (.invokevirtual 38, 3) := by decide +kernel
theorem dX1_isSpoiltIn_19 : decode cX1_isSpoiltIn 19 = .ok (.ifCond .eq 7, 3) := by decide +kernel
theorem dX1_isSpoiltIn_22 : decode cX1_isSpoiltIn 22 = .ok (.iconst 1, 1) := by decide +kernel
theorem dX1_isSpoiltIn_23 : decode cX1_isSpoiltIn 23 = .ok (.goto 4, 3) := by decide +kernel
theorem dX1_isSpoiltIn_26 : decode cX1_isSpoiltIn 26 = .ok (.iconst 0, 1) := by decide +kernel
theorem dX1_isSpoiltIn_27 : decode cX1_isSpoiltIn 27 = .ok (.ireturn, 1) := by decide +kernel
theorem dX1_spoiltLitres_0 : decode cX1_spoiltLitres 0 = .ok (.iconst 0, 1) := by decide +kernel
theorem dX1_spoiltLitres_1 : decode cX1_spoiltLitres 1 = .ok (.istore_n 2, 1) := by decide +kernel
theorem dX1_spoiltLitres_2 : decode cX1_spoiltLitres 2 = .ok (.iconst 0, 1) := by decide +kernel
theorem dX1_spoiltLitres_3 : decode cX1_spoiltLitres 3 = .ok (.istore_n 3, 1) := by decide +kernel
theorem dX1_spoiltLitres_4 : decode cX1_spoiltLitres 4 = .ok (.iload_n 3, 1) := by decide +kernel
theorem dX1_spoiltLitres_5 : decode cX1_spoiltLitres 5 = .ok (.aload_n 0, 1) := by decide +kernel
theorem dX1_spoiltLitres_6 : decode cX1_spoiltLitres 6 = .ok (.getfield 9, 3) := by decide +kernel
theorem dX1_spoiltLitres_9 : decode cX1_spoiltLitres 9 = .ok (.if_icmp .ge 27, 3) := by decide +kernel
theorem dX1_spoiltLitres_12 : decode cX1_spoiltLitres 12 = .ok (.aload_n 0, 1) := by decide +kernel
theorem dX1_spoiltLitres_13 : decode cX1_spoiltLitres 13 = .ok (.iload_n 3, 1) := by decide +kernel
theorem dX1_spoiltLitres_14 : decode cX1_spoiltLitres 14 = .ok (.iload_n 1, 1) := by decide +kernel
theorem dX1_spoiltLitres_15 : decode cX1_spoiltLitres 15 = .ok (.invokevirtual 46, 3) := by decide +kernel
theorem dX1_spoiltLitres_18 : decode cX1_spoiltLitres 18 = .ok (.ifCond .eq 12, 3) := by decide +kernel
theorem dX1_spoiltLitres_21 : decode cX1_spoiltLitres 21 = .ok (.iload_n 2, 1) := by decide +kernel
theorem dX1_spoiltLitres_22 : decode cX1_spoiltLitres 22 = .ok (.aload_n 0, 1) := by decide +kernel
theorem dX1_spoiltLitres_23 : decode cX1_spoiltLitres 23 = .ok (.getfield 19, 3) := by decide +kernel
theorem dX1_spoiltLitres_26 : decode cX1_spoiltLitres 26 = .ok (.iload_n 3, 1) := by decide +kernel
theorem dX1_spoiltLitres_27 : decode cX1_spoiltLitres 27 = .ok (.iaload, 1) := by decide +kernel
theorem dX1_spoiltLitres_28 : decode cX1_spoiltLitres 28 = .ok (.iadd, 1) := by decide +kernel
theorem dX1_spoiltLitres_29 : decode cX1_spoiltLitres 29 = .ok (.istore_n 2, 1) := by decide +kernel
theorem dX1_spoiltLitres_30 : decode cX1_spoiltLitres 30 = .ok (.iinc 3 1, 3) := by decide +kernel
theorem dX1_spoiltLitres_33 : decode cX1_spoiltLitres 33 = .ok (.goto (-29), 3) := by decide +kernel
theorem dX1_spoiltLitres_36 : decode cX1_spoiltLitres 36 = .ok (.iload_n 2, 1) := by decide +kernel
theorem dX1_spoiltLitres_37 : decode cX1_spoiltLitres 37 = .ok (.ireturn, 1) := by decide +kernel
theorem dX1_centsALitre_0 : decode cX1_centsALitre 0 = .ok (.iload_n 0, 1) := by decide +kernel
theorem dX1_centsALitre_1 : decode cX1_centsALitre 1 = .ok (.bipush 97, 2) := by decide +kernel
theorem dX1_centsALitre_3 : decode cX1_centsALitre 3 = .ok (.if_icmp .ne 6, 3) := by decide +kernel
theorem dX1_centsALitre_6 : decode cX1_centsALitre 6 = .ok (.bipush 40, 2) := by decide +kernel
theorem dX1_centsALitre_8 : decode cX1_centsALitre 8 = .ok (.ireturn, 1) := by decide +kernel
theorem dX1_centsALitre_9 : decode cX1_centsALitre 9 = .ok (.iload_n 0, 1) := by decide +kernel
theorem dX1_centsALitre_10 : decode cX1_centsALitre 10 = .ok (.bipush 98, 2) := by decide +kernel
theorem dX1_centsALitre_12 : decode cX1_centsALitre 12 = .ok (.if_icmp .ne 6, 3) := by decide +kernel
theorem dX1_centsALitre_15 : decode cX1_centsALitre 15 = .ok (.bipush 34, 2) := by decide +kernel
theorem dX1_centsALitre_17 : decode cX1_centsALitre 17 = .ok (.ireturn, 1) := by decide +kernel
theorem dX1_centsALitre_18 : decode cX1_centsALitre 18 = .ok (.iload_n 0, 1) := by decide +kernel
theorem dX1_centsALitre_19 : decode cX1_centsALitre 19 = .ok (.bipush 99, 2) := by decide +kernel
theorem dX1_centsALitre_21 : decode cX1_centsALitre 21 = .ok (.if_icmp .ne 8, 3) := by decide +kernel
theorem dX1_centsALitre_24 : decode cX1_centsALitre 24 = .ok (.bipush 25, 2) := by decide +kernel
theorem dX1_centsALitre_26 : decode cX1_centsALitre 26 = .ok (.goto 4, 3) := by decide +kernel
theorem dX1_centsALitre_29 : decode cX1_centsALitre 29 = .ok (.iconst 0, 1) := by decide +kernel
theorem dX1_centsALitre_30 : decode cX1_centsALitre 30 = .ok (.ireturn, 1) := by decide +kernel
theorem dX1_valueOfSample_0 : decode cX1_valueOfSample 0 = .ok (.aload_n 0, 1) := by decide +kernel
theorem dX1_valueOfSample_1 : decode cX1_valueOfSample 1 = .ok (.getfield 19, 3) := by decide +kernel
theorem dX1_valueOfSample_4 : decode cX1_valueOfSample 4 = .ok (.iload_n 1, 1) := by decide +kernel
theorem dX1_valueOfSample_5 : decode cX1_valueOfSample 5 = .ok (.iaload, 1) := by decide +kernel
theorem dX1_valueOfSample_6 : decode cX1_valueOfSample 6 = .ok (.aload_n 0, 1) := by decide +kernel
theorem dX1_valueOfSample_7 : decode cX1_valueOfSample 7 = .ok (.getfield 22, 3) := by decide +kernel
theorem dX1_valueOfSample_10 : decode cX1_valueOfSample 10 = .ok (.iload_n 1, 1) := by decide +kernel
theorem dX1_valueOfSample_11 : decode cX1_valueOfSample 11 = .ok (.caload, 1) := by decide +kernel
theorem dX1_valueOfSample_12 : decode cX1_valueOfSample 12 = .ok (.invokestatic 50, 3) := by decide +kernel
theorem dX1_valueOfSample_15 : decode cX1_valueOfSample 15 = .ok (.imul, 1) := by decide +kernel
theorem dX1_valueOfSample_16 : decode cX1_valueOfSample 16 = .ok (.ireturn, 1) := by decide +kernel
theorem dX1_valueOf_0 : decode cX1_valueOf 0 = .ok (.iconst 0, 1) := by decide +kernel
theorem dX1_valueOf_1 : decode cX1_valueOf 1 = .ok (.istore_n 2, 1) := by decide +kernel
theorem dX1_valueOf_2 : decode cX1_valueOf 2 = .ok (.iconst 0, 1) := by decide +kernel
theorem dX1_valueOf_3 : decode cX1_valueOf 3 = .ok (.istore_n 3, 1) := by decide +kernel
theorem dX1_valueOf_4 : decode cX1_valueOf 4 = .ok (.iload_n 3, 1) := by decide +kernel
theorem dX1_valueOf_5 : decode cX1_valueOf 5 = .ok (.aload_n 0, 1) := by decide +kernel
theorem dX1_valueOf_6 : decode cX1_valueOf 6 = .ok (.getfield 9, 3) := by decide +kernel
theorem dX1_valueOf_9 : decode cX1_valueOf 9 = .ok (.if_icmp .ge 28, 3) := by decide +kernel
theorem dX1_valueOf_12 : decode cX1_valueOf 12 = .ok (.aload_n 0, 1) := by decide +kernel
theorem dX1_valueOf_13 : decode cX1_valueOf 13 = .ok (.iload_n 3, 1) := by decide +kernel
theorem dX1_valueOf_14 : decode cX1_valueOf 14 = .ok (.bipush 98, 2) := by decide +kernel
theorem dX1_valueOf_16 : decode cX1_valueOf 16 = .ok (.iload_n 1, 1) := by decide +kernel
theorem dX1_valueOf_17 : decode cX1_valueOf 17 = .ok (.invokevirtual 38, 3) := by decide +kernel
theorem dX1_valueOf_20 : decode cX1_valueOf 20 = .ok (.ifCond .eq 11, 3) := by decide +kernel
theorem dX1_valueOf_23 : decode cX1_valueOf 23 = .ok (.iload_n 2, 1) := by decide +kernel
theorem dX1_valueOf_24 : decode cX1_valueOf 24 = .ok (.aload_n 0, 1) := by decide +kernel
theorem dX1_valueOf_25 : decode cX1_valueOf 25 = .ok (.iload_n 3, 1) := by decide +kernel
theorem dX1_valueOf_26 : decode cX1_valueOf 26 = .ok (.invokevirtual 54, 3) := by decide +kernel
theorem dX1_valueOf_29 : decode cX1_valueOf 29 = .ok (.iadd, 1) := by decide +kernel
theorem dX1_valueOf_30 : decode cX1_valueOf 30 = .ok (.istore_n 2, 1) := by decide +kernel
theorem dX1_valueOf_31 : decode cX1_valueOf 31 = .ok (.iinc 3 1, 3) := by decide +kernel
theorem dX1_valueOf_34 : decode cX1_valueOf 34 = .ok (.goto (-30), 3) := by decide +kernel
theorem dX1_valueOf_37 : decode cX1_valueOf 37 = .ok (.iload_n 2, 1) := by decide +kernel
theorem dX1_valueOf_38 : decode cX1_valueOf 38 = .ok (.ireturn, 1) := by decide +kernel
theorem dX1_payOfAll_0 : decode cX1_payOfAll 0 = .ok (.aload_n 0, 1) := by decide +kernel
theorem dX1_payOfAll_1 : decode cX1_payOfAll 1 = .ok (.iload_n 1, 1) := by decide +kernel
theorem dX1_payOfAll_2 : decode cX1_payOfAll 2 = .ok (.invokevirtual 57, 3) := by decide +kernel
theorem dX1_payOfAll_5 : decode cX1_payOfAll 5 = .ok (.ifCond .eq 7, 3) := by decide +kernel
theorem dX1_payOfAll_8 : decode cX1_payOfAll 8 = .ok (.iconst 0, 1) := by decide +kernel
theorem dX1_payOfAll_9 : decode cX1_payOfAll 9 = .ok (.goto 8, 3) := by decide +kernel
theorem dX1_payOfAll_12 : decode cX1_payOfAll 12 = .ok (.aload_n 0, 1) := by decide +kernel
theorem dX1_payOfAll_13 : decode cX1_payOfAll 13 = .ok (.iload_n 1, 1) := by decide +kernel
theorem dX1_payOfAll_14 : decode cX1_payOfAll 14 = .ok (.invokevirtual 61, 3) := by decide +kernel
theorem dX1_payOfAll_17 : decode cX1_payOfAll 17 = .ok (.ireturn, 1) := by decide +kernel
theorem dX1_lossOf_0 : decode cX1_lossOf 0 = .ok (.aload_n 0, 1) := by decide +kernel
theorem dX1_lossOf_1 : decode cX1_lossOf 1 = .ok (.iload_n 1, 1) := by decide +kernel
theorem dX1_lossOf_2 : decode cX1_lossOf 2 = .ok (.invokevirtual 57, 3) := by decide +kernel
theorem dX1_lossOf_5 : decode cX1_lossOf 5 = .ok (.ifCond .eq 11, 3) := by decide +kernel
theorem dX1_lossOf_8 : decode cX1_lossOf 8 = .ok (.aload_n 0, 1) := by decide +kernel
theorem dX1_lossOf_9 : decode cX1_lossOf 9 = .ok (.iload_n 1, 1) := by decide +kernel
theorem dX1_lossOf_10 : decode cX1_lossOf 10 = .ok (.invokevirtual 61, 3) := by decide +kernel
theorem dX1_lossOf_13 : decode cX1_lossOf 13 = .ok (.goto 4, 3) := by decide +kernel
theorem dX1_lossOf_16 : decode cX1_lossOf 16 = .ok (.iconst 0, 1) := by decide +kernel
theorem dX1_lossOf_17 : decode cX1_lossOf 17 = .ok (.ireturn, 1) := by decide +kernel
theorem dX1_settle_0 : decode cX1_settle 0 = .ok (.aload_n 0, 1) := by decide +kernel
theorem dX1_settle_1 : decode cX1_settle 1 = .ok (.iload_n 1, 1) := by decide +kernel
theorem dX1_settle_2 : decode cX1_settle 2 = .ok (.invokevirtual 64, 3) := by decide +kernel
theorem dX1_settle_5 : decode cX1_settle 5 = .ok (.ifCond .ne 4, 3) := by decide +kernel
theorem dX1_settle_8 : decode cX1_settle 8 = .ok (.return_, 1) := by decide +kernel
theorem dX1_settle_9 : decode cX1_settle 9 = .ok (.aload_n 0, 1) := by decide +kernel
theorem dX1_settle_10 : decode cX1_settle 10 = .ok (.iload_n 1, 1) := by decide +kernel
theorem dX1_settle_11 : decode cX1_settle 11 = .ok (.invokevirtual 42, 3) := by decide +kernel
theorem dX1_settle_14 : decode cX1_settle 14 = .ok (.istore_n 2, 1) := by decide +kernel
theorem dX1_settle_15 : decode cX1_settle 15 = .ok (.iload_n 2, 1) := by decide +kernel
theorem dX1_settle_16 : decode cX1_settle 16 = .ok (.ifCond .le 12, 3) := by decide +kernel
theorem dX1_settle_19 : decode cX1_settle 19 = .ok (.aload_n 0, 1) := by decide +kernel
theorem dX1_settle_20 : decode cX1_settle 20 = .ok (.iload_n 1, 1) := by decide +kernel
theorem dX1_settle_21 : decode cX1_settle 21 = .ok (.iload_n 2, 1) := by decide +kernel
theorem dX1_settle_22 : decode cX1_settle 22 = .ok (.invokevirtual 67, 3) := by decide +kernel
theorem dX1_settle_25 : decode cX1_settle 25 = .ok (.goto 8, 3) := by decide +kernel
theorem dX1_settle_28 : decode cX1_settle 28 = .ok (.aload_n 0, 1) := by decide +kernel
theorem dX1_settle_29 : decode cX1_settle 29 = .ok (.iload_n 1, 1) := by decide +kernel
theorem dX1_settle_30 : decode cX1_settle 30 = .ok (.invokevirtual 71, 3) := by decide +kernel
theorem dX1_settle_33 : decode cX1_settle 33 = .ok (.return_, 1) := by decide +kernel
theorem dX1_settlePay_0 : decode cX1_settlePay 0 = .ok (.iconst 0, 1) := by decide +kernel
theorem dX1_settlePay_1 : decode cX1_settlePay 1 = .ok (.istore_n 2, 1) := by decide +kernel
theorem dX1_settlePay_2 : decode cX1_settlePay 2 = .ok (.iload_n 2, 1) := by decide +kernel
theorem dX1_settlePay_3 : decode cX1_settlePay 3 = .ok (.aload_n 0, 1) := by decide +kernel
theorem dX1_settlePay_4 : decode cX1_settlePay 4 = .ok (.getfield 9, 3) := by decide +kernel
theorem dX1_settlePay_7 : decode cX1_settlePay 7 = .ok (.if_icmp .ge 31, 3) := by decide +kernel
theorem dX1_settlePay_10 : decode cX1_settlePay 10 = .ok (.aload_n 0, 1) := by decide +kernel
theorem dX1_settlePay_11 : decode cX1_settlePay 11 = .ok (.iload_n 2, 1) := by decide +kernel
theorem dX1_settlePay_12 : decode cX1_settlePay 12 = .ok (.bipush 98, 2) := by decide +kernel
theorem dX1_settlePay_14 : decode cX1_settlePay 14 = .ok (.iload_n 1, 1) := by decide +kernel
theorem dX1_settlePay_15 : decode cX1_settlePay 15 = .ok (.invokevirtual 38, 3) := by decide +kernel
theorem dX1_settlePay_18 : decode cX1_settlePay 18 = .ok (.ifCond .eq 14, 3) := by decide +kernel
theorem dX1_settlePay_21 : decode cX1_settlePay 21 = .ok (.aload_n 0, 1) := by decide +kernel
theorem dX1_settlePay_22 : decode cX1_settlePay 22 = .ok (.getfield 32, 3) := by decide +kernel
theorem dX1_settlePay_25 : decode cX1_settlePay 25 = .ok (.iload_n 2, 1) := by decide +kernel
theorem dX1_settlePay_26 : decode cX1_settlePay 26 = .ok (.aload_n 0, 1) := by decide +kernel
theorem dX1_settlePay_27 : decode cX1_settlePay 27 = .ok (.iload_n 2, 1) := by decide +kernel
theorem dX1_settlePay_28 : decode cX1_settlePay 28 = .ok (.invokevirtual 54, 3) := by decide +kernel
theorem dX1_settlePay_31 : decode cX1_settlePay 31 = .ok (.iastore, 1) := by decide +kernel
theorem dX1_settlePay_32 : decode cX1_settlePay 32 = .ok (.iinc 2 1, 3) := by decide +kernel
theorem dX1_settlePay_35 : decode cX1_settlePay 35 = .ok (.goto (-33), 3) := by decide +kernel
theorem dX1_settlePay_38 : decode cX1_settlePay 38 = .ok (.return_, 1) := by decide +kernel
theorem dX1_settleBlame_0 : decode cX1_settleBlame 0 = .ok (.aload_n 0, 1) := by decide +kernel
theorem dX1_settleBlame_1 : decode cX1_settleBlame 1 = .ok (.iload_n 1, 1) := by decide +kernel
theorem dX1_settleBlame_2 : decode cX1_settleBlame 2 = .ok (.invokevirtual 61, 3) := by decide +kernel
theorem dX1_settleBlame_5 : decode cX1_settleBlame 5 = .ok (.istore_n 3, 1) := by decide +kernel
theorem dX1_settleBlame_6 : decode cX1_settleBlame 6 = .ok (.iload_n 3, 1) := by decide +kernel
theorem dX1_settleBlame_7 : decode cX1_settleBlame 7 = .ok (.istore 4, 2) := by decide +kernel
theorem dX1_settleBlame_9 : decode cX1_settleBlame 9 = .ok (.iconst 0, 1) := by decide +kernel
theorem dX1_settleBlame_10 : decode cX1_settleBlame 10 = .ok (.istore 5, 2) := by decide +kernel
theorem dX1_settleBlame_12 : decode cX1_settleBlame 12 = .ok (.iload 5, 2) := by decide +kernel
theorem dX1_settleBlame_14 : decode cX1_settleBlame 14 = .ok (.aload_n 0, 1) := by decide +kernel
theorem dX1_settleBlame_15 : decode cX1_settleBlame 15 = .ok (.getfield 9, 3) := by decide +kernel
theorem dX1_settleBlame_18 : decode cX1_settleBlame 18 = .ok (.if_icmp .ge 49, 3) := by decide +kernel
theorem dX1_settleBlame_21 : decode cX1_settleBlame 21 = .ok (.aload_n 0, 1) := by decide +kernel
theorem dX1_settleBlame_22 : decode cX1_settleBlame 22 = .ok (.iload 5, 2) := by decide +kernel
theorem dX1_settleBlame_24 : decode cX1_settleBlame 24 = .ok (.iload_n 1, 1) := by decide +kernel
theorem dX1_settleBlame_25 : decode cX1_settleBlame 25 = .ok (.invokevirtual 46, 3) := by decide +kernel
theorem dX1_settleBlame_28 : decode cX1_settleBlame 28 = .ok (.ifCond .eq 33, 3) := by decide +kernel
theorem dX1_settleBlame_31 : decode cX1_settleBlame 31 = .ok (.aload_n 0, 1) := by decide +kernel
theorem dX1_settleBlame_32 : decode cX1_settleBlame 32 = .ok (.getfield 35, 3) := by decide +kernel
theorem dX1_settleBlame_35 : decode cX1_settleBlame 35 = .ok (.iload 5, 2) := by decide +kernel
theorem dX1_settleBlame_37 : decode cX1_settleBlame 37 = .ok (.iload_n 3, 1) := by decide +kernel
theorem dX1_settleBlame_38 : decode cX1_settleBlame 38 = .ok (.aload_n 0, 1) := by decide +kernel
theorem dX1_settleBlame_39 : decode cX1_settleBlame 39 = .ok (.getfield 19, 3) := by decide +kernel
theorem dX1_settleBlame_42 : decode cX1_settleBlame 42 = .ok (.iload 5, 2) := by decide +kernel
theorem dX1_settleBlame_44 : decode cX1_settleBlame 44 = .ok (.iaload, 1) := by decide +kernel
theorem dX1_settleBlame_45 : decode cX1_settleBlame 45 = .ok (.imul, 1) := by decide +kernel
theorem dX1_settleBlame_46 : decode cX1_settleBlame 46 = .ok (.iload_n 2, 1) := by decide +kernel
theorem dX1_settleBlame_47 : decode cX1_settleBlame 47 = .ok (.idiv, 1) := by decide +kernel
theorem dX1_settleBlame_48 : decode cX1_settleBlame 48 = .ok (.iastore, 1) := by decide +kernel
theorem dX1_settleBlame_49 : decode cX1_settleBlame 49 = .ok (.iload 4, 2) := by decide +kernel
theorem dX1_settleBlame_51 : decode cX1_settleBlame 51 = .ok (.aload_n 0, 1) := by decide +kernel
theorem dX1_settleBlame_52 : decode cX1_settleBlame 52 = .ok (.getfield 35, 3) := by decide +kernel
theorem dX1_settleBlame_55 : decode cX1_settleBlame 55 = .ok (.iload 5, 2) := by decide +kernel
theorem dX1_settleBlame_57 : decode cX1_settleBlame 57 = .ok (.iaload, 1) := by decide +kernel
theorem dX1_settleBlame_58 : decode cX1_settleBlame 58 = .ok (.isub, 1) := by decide +kernel
theorem dX1_settleBlame_59 : decode cX1_settleBlame 59 = .ok (.istore 4, 2) := by decide +kernel
theorem dX1_settleBlame_61 : decode cX1_settleBlame 61 = .ok (.iinc 5 1, 3) := by decide +kernel
theorem dX1_settleBlame_64 : decode cX1_settleBlame 64 = .ok (.goto (-52), 3) := by decide +kernel
theorem dX1_settleBlame_67 : decode cX1_settleBlame 67 = .ok (.iconst 0, 1) := by decide +kernel
theorem dX1_settleBlame_68 : decode cX1_settleBlame 68 = .ok (.istore 5, 2) := by decide +kernel
theorem dX1_settleBlame_70 : decode cX1_settleBlame 70 = .ok (.iload 5, 2) := by decide +kernel
theorem dX1_settleBlame_72 : decode cX1_settleBlame 72 = .ok (.aload_n 0, 1) := by decide +kernel
theorem dX1_settleBlame_73 : decode cX1_settleBlame 73 = .ok (.getfield 9, 3) := by decide +kernel
theorem dX1_settleBlame_76 : decode cX1_settleBlame 76 = .ok (.if_icmp .ge 38, 3) := by decide +kernel
theorem dX1_settleBlame_79 : decode cX1_settleBlame 79 = .ok (.iload 4, 2) := by decide +kernel
theorem dX1_settleBlame_81 : decode cX1_settleBlame 81 = .ok (.ifCond .le 33, 3) := by decide +kernel
theorem dX1_settleBlame_84 : decode cX1_settleBlame 84 = .ok (.aload_n 0, 1) := by decide +kernel
theorem dX1_settleBlame_85 : decode cX1_settleBlame 85 = .ok (.iload 5, 2) := by decide +kernel
theorem dX1_settleBlame_87 : decode cX1_settleBlame 87 = .ok (.iload_n 1, 1) := by decide +kernel
theorem dX1_settleBlame_88 : decode cX1_settleBlame 88 = .ok (.invokevirtual 46, 3) := by decide +kernel
theorem dX1_settleBlame_91 : decode cX1_settleBlame 91 = .ok (.ifCond .eq 17, 3) := by decide +kernel
theorem dX1_settleBlame_94 : decode cX1_settleBlame 94 = .ok (.aload_n 0, 1) := by decide +kernel
theorem dX1_settleBlame_95 : decode cX1_settleBlame 95 = .ok (.getfield 35, 3) := by decide +kernel
theorem dX1_settleBlame_98 : decode cX1_settleBlame 98 = .ok (.iload 5, 2) := by decide +kernel
theorem dX1_settleBlame_100 : decode cX1_settleBlame 100 = .ok (.dup2, 1) := by decide +kernel
theorem dX1_settleBlame_101 : decode cX1_settleBlame 101 = .ok (.iaload, 1) := by decide +kernel
theorem dX1_settleBlame_102 : decode cX1_settleBlame 102 = .ok (.iconst 1, 1) := by decide +kernel
theorem dX1_settleBlame_103 : decode cX1_settleBlame 103 = .ok (.iadd, 1) := by decide +kernel
theorem dX1_settleBlame_104 : decode cX1_settleBlame 104 = .ok (.iastore, 1) := by decide +kernel
theorem dX1_settleBlame_105 : decode cX1_settleBlame 105 = .ok (.iinc 4 (-1), 3) := by decide +kernel
theorem dX1_settleBlame_108 : decode cX1_settleBlame 108 = .ok (.iinc 5 1, 3) := by decide +kernel
theorem dX1_settleBlame_111 : decode cX1_settleBlame 111 = .ok (.goto (-41), 3) := by decide +kernel
theorem dX1_settleBlame_114 : decode cX1_settleBlame 114 = .ok (.return_, 1) := by decide +kernel
theorem dX1_paidTo_0 : decode cX1_paidTo 0 = .ok (.iconst 0, 1) := by decide +kernel
theorem dX1_paidTo_1 : decode cX1_paidTo 1 = .ok (.istore_n 3, 1) := by decide +kernel
theorem dX1_paidTo_2 : decode cX1_paidTo 2 = .ok (.iconst 0, 1) := by decide +kernel
theorem dX1_paidTo_3 : decode cX1_paidTo 3 = .ok (.istore 4, 2) := by decide +kernel
theorem dX1_paidTo_5 : decode cX1_paidTo 5 = .ok (.iload 4, 2) := by decide +kernel
theorem dX1_paidTo_7 : decode cX1_paidTo 7 = .ok (.aload_n 0, 1) := by decide +kernel
theorem dX1_paidTo_8 : decode cX1_paidTo 8 = .ok (.getfield 9, 3) := by decide +kernel
theorem dX1_paidTo_11 : decode cX1_paidTo 11 = .ok (.if_icmp .ge 42, 3) := by decide +kernel
theorem dX1_paidTo_14 : decode cX1_paidTo 14 = .ok (.aload_n 0, 1) := by decide +kernel
theorem dX1_paidTo_15 : decode cX1_paidTo 15 = .ok (.getfield 15, 3) := by decide +kernel
theorem dX1_paidTo_18 : decode cX1_paidTo 18 = .ok (.iload 4, 2) := by decide +kernel
theorem dX1_paidTo_20 : decode cX1_paidTo 20 = .ok (.iaload, 1) := by decide +kernel
theorem dX1_paidTo_21 : decode cX1_paidTo 21 = .ok (.iload_n 1, 1) := by decide +kernel
theorem dX1_paidTo_22 : decode cX1_paidTo 22 = .ok (.if_icmp .ne 25, 3) := by decide +kernel
theorem dX1_paidTo_25 : decode cX1_paidTo 25 = .ok (.aload_n 0, 1) := by decide +kernel
theorem dX1_paidTo_26 : decode cX1_paidTo 26 = .ok (.iload 4, 2) := by decide +kernel
theorem dX1_paidTo_28 : decode cX1_paidTo 28 = .ok (.bipush 98, 2) := by decide +kernel
theorem dX1_paidTo_30 : decode cX1_paidTo 30 = .ok (.iload_n 2, 1) := by decide +kernel
theorem dX1_paidTo_31 : decode cX1_paidTo 31 = .ok (.invokevirtual 38, 3) := by decide +kernel
theorem dX1_paidTo_34 : decode cX1_paidTo 34 = .ok (.ifCond .eq 13, 3) := by decide +kernel
theorem dX1_paidTo_37 : decode cX1_paidTo 37 = .ok (.iload_n 3, 1) := by decide +kernel
theorem dX1_paidTo_38 : decode cX1_paidTo 38 = .ok (.aload_n 0, 1) := by decide +kernel
theorem dX1_paidTo_39 : decode cX1_paidTo 39 = .ok (.getfield 32, 3) := by decide +kernel
theorem dX1_paidTo_42 : decode cX1_paidTo 42 = .ok (.iload 4, 2) := by decide +kernel
theorem dX1_paidTo_44 : decode cX1_paidTo 44 = .ok (.iaload, 1) := by decide +kernel
theorem dX1_paidTo_45 : decode cX1_paidTo 45 = .ok (.iadd, 1) := by decide +kernel
theorem dX1_paidTo_46 : decode cX1_paidTo 46 = .ok (.istore_n 3, 1) := by decide +kernel
theorem dX1_paidTo_47 : decode cX1_paidTo 47 = .ok (.iinc 4 1, 3) := by decide +kernel
theorem dX1_paidTo_50 : decode cX1_paidTo 50 = .ok (.goto (-45), 3) := by decide +kernel
theorem dX1_paidTo_53 : decode cX1_paidTo 53 = .ok (.iload_n 3, 1) := by decide +kernel
theorem dX1_paidTo_54 : decode cX1_paidTo 54 = .ok (.ireturn, 1) := by decide +kernel
theorem dX1_blamedOn_0 : decode cX1_blamedOn 0 = .ok (.iconst 0, 1) := by decide +kernel
theorem dX1_blamedOn_1 : decode cX1_blamedOn 1 = .ok (.istore_n 3, 1) := by decide +kernel
theorem dX1_blamedOn_2 : decode cX1_blamedOn 2 = .ok (.iconst 0, 1) := by decide +kernel
theorem dX1_blamedOn_3 : decode cX1_blamedOn 3 = .ok (.istore 4, 2) := by decide +kernel
theorem dX1_blamedOn_5 : decode cX1_blamedOn 5 = .ok (.iload 4, 2) := by decide +kernel
theorem dX1_blamedOn_7 : decode cX1_blamedOn 7 = .ok (.aload_n 0, 1) := by decide +kernel
theorem dX1_blamedOn_8 : decode cX1_blamedOn 8 = .ok (.getfield 9, 3) := by decide +kernel
theorem dX1_blamedOn_11 : decode cX1_blamedOn 11 = .ok (.if_icmp .ge 42, 3) := by decide +kernel
theorem dX1_blamedOn_14 : decode cX1_blamedOn 14 = .ok (.aload_n 0, 1) := by decide +kernel
theorem dX1_blamedOn_15 : decode cX1_blamedOn 15 = .ok (.getfield 15, 3) := by decide +kernel
theorem dX1_blamedOn_18 : decode cX1_blamedOn 18 = .ok (.iload 4, 2) := by decide +kernel
theorem dX1_blamedOn_20 : decode cX1_blamedOn 20 = .ok (.iaload, 1) := by decide +kernel
theorem dX1_blamedOn_21 : decode cX1_blamedOn 21 = .ok (.iload_n 1, 1) := by decide +kernel
theorem dX1_blamedOn_22 : decode cX1_blamedOn 22 = .ok (.if_icmp .ne 25, 3) := by decide +kernel
theorem dX1_blamedOn_25 : decode cX1_blamedOn 25 = .ok (.aload_n 0, 1) := by decide +kernel
theorem dX1_blamedOn_26 : decode cX1_blamedOn 26 = .ok (.iload 4, 2) := by decide +kernel
theorem dX1_blamedOn_28 : decode cX1_blamedOn 28 = .ok (.bipush 98, 2) := by decide +kernel
theorem dX1_blamedOn_30 : decode cX1_blamedOn 30 = .ok (.iload_n 2, 1) := by decide +kernel
theorem dX1_blamedOn_31 : decode cX1_blamedOn 31 = .ok (.invokevirtual 38, 3) := by decide +kernel
theorem dX1_blamedOn_34 : decode cX1_blamedOn 34 = .ok (.ifCond .eq 13, 3) := by decide +kernel
theorem dX1_blamedOn_37 : decode cX1_blamedOn 37 = .ok (.iload_n 3, 1) := by decide +kernel
theorem dX1_blamedOn_38 : decode cX1_blamedOn 38 = .ok (.aload_n 0, 1) := by decide +kernel
theorem dX1_blamedOn_39 : decode cX1_blamedOn 39 = .ok (.getfield 35, 3) := by decide +kernel
theorem dX1_blamedOn_42 : decode cX1_blamedOn 42 = .ok (.iload 4, 2) := by decide +kernel
theorem dX1_blamedOn_44 : decode cX1_blamedOn 44 = .ok (.iaload, 1) := by decide +kernel
theorem dX1_blamedOn_45 : decode cX1_blamedOn 45 = .ok (.iadd, 1) := by decide +kernel
theorem dX1_blamedOn_46 : decode cX1_blamedOn 46 = .ok (.istore_n 3, 1) := by decide +kernel
theorem dX1_blamedOn_47 : decode cX1_blamedOn 47 = .ok (.iinc 4 1, 3) := by decide +kernel
theorem dX1_blamedOn_50 : decode cX1_blamedOn 50 = .ok (.goto (-45), 3) := by decide +kernel
theorem dX1_blamedOn_53 : decode cX1_blamedOn 53 = .ok (.iload_n 3, 1) := by decide +kernel
theorem dX1_blamedOn_54 : decode cX1_blamedOn 54 = .ok (.ireturn, 1) := by decide +kernel
theorem dX1_balanceOf_0 : decode cX1_balanceOf 0 = .ok (.lconst 0, 1) := by decide +kernel
theorem dX1_balanceOf_1 : decode cX1_balanceOf 1 = .ok (.lstore_n 2, 1) := by decide +kernel
theorem dX1_balanceOf_2 : decode cX1_balanceOf 2 = .ok (.iconst 0, 1) := by decide +kernel
theorem dX1_balanceOf_3 : decode cX1_balanceOf 3 = .ok (.istore 4, 2) := by decide +kernel
theorem dX1_balanceOf_5 : decode cX1_balanceOf 5 = .ok (.iload 4, 2) := by decide +kernel
theorem dX1_balanceOf_7 : decode cX1_balanceOf 7 = .ok (.aload_n 0, 1) := by decide +kernel
theorem dX1_balanceOf_8 : decode cX1_balanceOf 8 = .ok (.getfield 9, 3) := by decide +kernel
theorem dX1_balanceOf_11 : decode cX1_balanceOf 11 = .ok (.if_icmp .ge 39, 3) := by decide +kernel
theorem dX1_balanceOf_14 : decode cX1_balanceOf 14 = .ok (.aload_n 0, 1) := by decide +kernel
theorem dX1_balanceOf_15 : decode cX1_balanceOf 15 = .ok (.getfield 15, 3) := by decide +kernel
theorem dX1_balanceOf_18 : decode cX1_balanceOf 18 = .ok (.iload 4, 2) := by decide +kernel
theorem dX1_balanceOf_20 : decode cX1_balanceOf 20 = .ok (.iaload, 1) := by decide +kernel
theorem dX1_balanceOf_21 : decode cX1_balanceOf 21 = .ok (.iload_n 1, 1) := by decide +kernel
theorem dX1_balanceOf_22 : decode cX1_balanceOf 22 = .ok (.if_icmp .ne 22, 3) := by decide +kernel
theorem dX1_balanceOf_25 : decode cX1_balanceOf 25 = .ok (.lload_n 2, 1) := by decide +kernel
theorem dX1_balanceOf_26 : decode cX1_balanceOf 26 = .ok (.aload_n 0, 1) := by decide +kernel
theorem dX1_balanceOf_27 : decode cX1_balanceOf 27 = .ok (.getfield 32, 3) := by decide +kernel
theorem dX1_balanceOf_30 : decode cX1_balanceOf 30 = .ok (.iload 4, 2) := by decide +kernel
theorem dX1_balanceOf_32 : decode cX1_balanceOf 32 = .ok (.iaload, 1) := by decide +kernel
theorem dX1_balanceOf_33 : decode cX1_balanceOf 33 = .ok (.aload_n 0, 1) := by decide +kernel
theorem dX1_balanceOf_34 : decode cX1_balanceOf 34 = .ok (.getfield 35, 3) := by decide +kernel
theorem dX1_balanceOf_37 : decode cX1_balanceOf 37 = .ok (.iload 4, 2) := by decide +kernel
theorem dX1_balanceOf_39 : decode cX1_balanceOf 39 = .ok (.iaload, 1) := by decide +kernel
theorem dX1_balanceOf_40 : decode cX1_balanceOf 40 = .ok (.isub, 1) := by decide +kernel
theorem dX1_balanceOf_41 : decode cX1_balanceOf 41 = .ok (.i2l, 1) := by decide +kernel
theorem dX1_balanceOf_42 : decode cX1_balanceOf 42 = .ok (.ladd, 1) := by decide +kernel
theorem dX1_balanceOf_43 : decode cX1_balanceOf 43 = .ok (.lstore_n 2, 1) := by decide +kernel
theorem dX1_balanceOf_44 : decode cX1_balanceOf 44 = .ok (.iinc 4 1, 3) := by decide +kernel
theorem dX1_balanceOf_47 : decode cX1_balanceOf 47 = .ok (.goto (-42), 3) := by decide +kernel
theorem dX1_balanceOf_50 : decode cX1_balanceOf 50 = .ok (.lload_n 2, 1) := by decide +kernel
theorem dX1_balanceOf_51 : decode cX1_balanceOf 51 = .ok (.lreturn, 1) := by decide +kernel
theorem dX2_init_0 : decode cX2_init 0 = .ok (.aload_n 0, 1) := by decide +kernel
theorem dX2_init_1 : decode cX2_init 1 = .ok (.invokespecial 1, 3) := by decide +kernel
theorem dX2_init_4 : decode cX2_init 4 = .ok (.aload_n 0, 1) := by decide +kernel
theorem dX2_init_5 : decode cX2_init 5 = .ok (.iconst 0, 1) := by decide +kernel
theorem dX2_init_6 : decode cX2_init 6 = .ok (.putfield 7, 3) := by decide +kernel
theorem dX2_init_9 : decode cX2_init 9 = .ok (.aload_n 0, 1) := by decide +kernel
theorem dX2_init_10 : decode cX2_init 10 = .ok (.new 13, 3) := by decide +kernel
theorem dX2_init_13 : decode cX2_init 13 = .ok (.dup, 1) := by decide +kernel
theorem dX2_init_14 : decode cX2_init 14 = .ok (.invokespecial 15, 3) := by decide +kernel
theorem dX2_init_17 : decode cX2_init 17 = .ok (.putfield 16, 3) := by decide +kernel
theorem dX2_init_20 : decode cX2_init 20 = .ok (.aload_n 0, 1) := by decide +kernel
theorem dX2_init_21 : decode cX2_init 21 = .ok (.iconst 0, 1) := by decide +kernel
theorem dX2_init_22 : decode cX2_init 22 = .ok (.putfield 20, 3) := by decide +kernel
theorem dX2_init_25 : decode cX2_init 25 = .ok (.aload_n 0, 1) := by decide +kernel
theorem dX2_init_26 : decode cX2_init 26 = .ok (.iconst 4, 1) := by decide +kernel
theorem dX2_init_27 : decode cX2_init 27 = .ok (.newarray .int, 2) := by decide +kernel
theorem dX2_init_29 : decode cX2_init 29 = .ok (.putfield 23, 3) := by decide +kernel
theorem dX2_init_32 : decode cX2_init 32 = .ok (.aload_n 0, 1) := by decide +kernel
theorem dX2_init_33 : decode cX2_init 33 = .ok (.iconst 0, 1) := by decide +kernel
theorem dX2_init_34 : decode cX2_init 34 = .ok (.putfield 27, 3) := by decide +kernel
theorem dX2_init_37 : decode cX2_init 37 = .ok (.aload_n 0, 1) := by decide +kernel
theorem dX2_init_38 : decode cX2_init 38 = .ok (.iconst 0, 1) := by decide +kernel
theorem dX2_init_39 : decode cX2_init 39 = .ok (.putfield 30, 3) := by decide +kernel
theorem dX2_init_42 : decode cX2_init 42 = .ok (.aload_n 0, 1) := by decide +kernel
theorem dX2_init_43 : decode cX2_init 43 = .ok (.bipush 6, 2) := by decide +kernel
theorem dX2_init_45 : decode cX2_init 45 = .ok (.newarray .boolean, 2) := by decide +kernel
theorem dX2_init_47 : decode cX2_init 47 = .ok (.putfield 34, 3) := by decide +kernel
theorem dX2_init_50 : decode cX2_init 50 = .ok (.aload_n 0, 1) := by decide +kernel
theorem dX2_init_51 : decode cX2_init 51 = .ok (.new 38, 3) := by decide +kernel
theorem dX2_init_54 : decode cX2_init 54 = .ok (.dup, 1) := by decide +kernel
theorem dX2_init_55 : decode cX2_init 55 = .ok (.invokespecial 40, 3) := by decide +kernel
theorem dX2_init_58 : decode cX2_init 58 = .ok (.putfield 41, 3) := by decide +kernel
theorem dX2_init_61 : decode cX2_init 61 = .ok (.aload_n 0, 1) := by decide +kernel
theorem dX2_init_62 : decode cX2_init 62 = .ok (.iconst 0, 1) := by decide +kernel
theorem dX2_init_63 : decode cX2_init 63 = .ok (.putfield 45, 3) := by decide +kernel
theorem dX2_init_66 : decode cX2_init 66 = .ok (.return_, 1) := by decide +kernel
theorem dX2_addFarm_0 : decode cX2_addFarm 0 = .ok (.iload_n 1, 1) := by decide +kernel
theorem dX2_addFarm_1 : decode cX2_addFarm 1 = .ok (.bipush 10, 2) := by decide +kernel
theorem dX2_addFarm_3 : decode cX2_addFarm 3 = .ok (.if_icmp .lt 10, 3) := by decide +kernel
theorem dX2_addFarm_6 : decode cX2_addFarm 6 = .ok (.iload_n 1, 1) := by decide +kernel
theorem dX2_addFarm_7 : decode cX2_addFarm 7 = .ok (.sipush 200, 3) := by decide +kernel
theorem dX2_addFarm_10 : decode cX2_addFarm 10 = .ok (.if_icmp .le 13, 3) := by decide +kernel
theorem dX2_addFarm_13 : decode cX2_addFarm 13 = .ok (.new 48, 3) := by decide +kernel
theorem dX2_addFarm_16 : decode cX2_addFarm 16 = .ok (.dup, 1) := by decide +kernel
theorem dX2_addFarm_17 : decode cX2_addFarm 17 = .ok (.ldc 50, 2) := by decide +kernel
theorem dX2_addFarm_19 : decode cX2_addFarm 19 = .ok (.invokespecial 52, 3) := by decide +kernel
theorem dX2_addFarm_22 : decode cX2_addFarm 22 = .ok (.athrow, 1) := by decide +kernel
theorem dX2_addFarm_23 : decode cX2_addFarm 23 = .ok (.aload_n 0, 1) := by decide +kernel
theorem dX2_addFarm_24 : decode cX2_addFarm 24 = .ok (.getfield 16, 3) := by decide +kernel
theorem dX2_addFarm_27 : decode cX2_addFarm 27 = .ok (.getfield 55, 3) := by decide +kernel
theorem dX2_addFarm_30 : decode cX2_addFarm 30 = .ok (.bipush 6, 2) := by decide +kernel
theorem dX2_addFarm_32 : decode cX2_addFarm 32 = .ok (.if_icmp .lt 13, 3) := by decide +kernel
theorem dX2_addFarm_35 : decode cX2_addFarm 35 = .ok (.new 58, 3) := by decide +kernel
theorem dX2_addFarm_38 : decode cX2_addFarm 38 = .ok (.dup, 1) := by decide +kernel
theorem dX2_addFarm_39 : decode cX2_addFarm 39 = .ok (.ldc 60, 2) := by decide +kernel
theorem dX2_addFarm_41 : decode cX2_addFarm 41 = .ok (.invokespecial 62, 3) := by decide +kernel
theorem dX2_addFarm_44 : decode cX2_addFarm 44 = .ok (.athrow, 1) := by decide +kernel
theorem dX2_addFarm_45 : decode cX2_addFarm 45 = .ok (.aload_n 0, 1) := by decide +kernel
theorem dX2_addFarm_46 : decode cX2_addFarm 46 = .ok (.getfield 16, 3) := by decide +kernel
theorem dX2_addFarm_49 : decode cX2_addFarm 49 = .ok (.iload_n 1, 1) := by decide +kernel
theorem dX2_addFarm_50 : decode cX2_addFarm 50 = .ok (.invokevirtual 63, 3) := by decide +kernel
theorem dX2_addFarm_53 : decode cX2_addFarm 53 = .ok (.ireturn, 1) := by decide +kernel
theorem dX2_addCow_0 : decode cX2_addCow 0 = .ok (.aload_n 0, 1) := by decide +kernel
theorem dX2_addCow_1 : decode cX2_addCow 1 = .ok (.iload_n 1, 1) := by decide +kernel
theorem dX2_addCow_2 : decode cX2_addCow 2 = .ok (.invokevirtual 67, 3) := by decide +kernel
theorem dX2_addCow_5 : decode cX2_addCow 5 = .ok (.iload_n 2, 1) := by decide +kernel
theorem dX2_addCow_6 : decode cX2_addCow 6 = .ok (.iconst 5, 1) := by decide +kernel
theorem dX2_addCow_7 : decode cX2_addCow 7 = .ok (.if_icmp .lt 9, 3) := by decide +kernel
theorem dX2_addCow_10 : decode cX2_addCow 10 = .ok (.iload_n 2, 1) := by decide +kernel
theorem dX2_addCow_11 : decode cX2_addCow 11 = .ok (.bipush 30, 2) := by decide +kernel
theorem dX2_addCow_13 : decode cX2_addCow 13 = .ok (.if_icmp .le 13, 3) := by decide +kernel
theorem dX2_addCow_16 : decode cX2_addCow 16 = .ok (.new 48, 3) := by decide +kernel
theorem dX2_addCow_19 : decode cX2_addCow 19 = .ok (.dup, 1) := by decide +kernel
theorem dX2_addCow_20 : decode cX2_addCow 20 = .ok (.ldc 71, 2) := by decide +kernel
theorem dX2_addCow_22 : decode cX2_addCow 22 = .ok (.invokespecial 52, 3) := by decide +kernel
theorem dX2_addCow_25 : decode cX2_addCow 25 = .ok (.athrow, 1) := by decide +kernel
theorem dX2_addCow_26 : decode cX2_addCow 26 = .ok (.aload_n 0, 1) := by decide +kernel
theorem dX2_addCow_27 : decode cX2_addCow 27 = .ok (.getfield 16, 3) := by decide +kernel
theorem dX2_addCow_30 : decode cX2_addCow 30 = .ok (.getfield 73, 3) := by decide +kernel
theorem dX2_addCow_33 : decode cX2_addCow 33 = .ok (.iload_n 1, 1) := by decide +kernel
theorem dX2_addCow_34 : decode cX2_addCow 34 = .ok (.iaload, 1) := by decide +kernel
theorem dX2_addCow_35 : decode cX2_addCow 35 = .ok (.iconst 5, 1) := by decide +kernel
theorem dX2_addCow_36 : decode cX2_addCow 36 = .ok (.if_icmp .lt 13, 3) := by decide +kernel
theorem dX2_addCow_39 : decode cX2_addCow 39 = .ok (.new 58, 3) := by decide +kernel
theorem dX2_addCow_42 : decode cX2_addCow 42 = .ok (.dup, 1) := by decide +kernel
theorem dX2_addCow_43 : decode cX2_addCow 43 = .ok (.ldc 76, 2) := by decide +kernel
theorem dX2_addCow_45 : decode cX2_addCow 45 = .ok (.invokespecial 62, 3) := by decide +kernel
theorem dX2_addCow_48 : decode cX2_addCow 48 = .ok (.athrow, 1) := by decide +kernel
theorem dX2_addCow_49 : decode cX2_addCow 49 = .ok (.aload_n 0, 1) := by decide +kernel
theorem dX2_addCow_50 : decode cX2_addCow 50 = .ok (.getfield 16, 3) := by decide +kernel
theorem dX2_addCow_53 : decode cX2_addCow 53 = .ok (.iload_n 1, 1) := by decide +kernel
theorem dX2_addCow_54 : decode cX2_addCow 54 = .ok (.iload_n 2, 1) := by decide +kernel
theorem dX2_addCow_55 : decode cX2_addCow 55 = .ok (.invokevirtual 78, 3) := by decide +kernel
theorem dX2_addCow_58 : decode cX2_addCow 58 = .ok (.ireturn, 1) := by decide +kernel
theorem dX2_milkOf_0 : decode cX2_milkOf 0 = .ok (.aload_n 0, 1) := by decide +kernel
theorem dX2_milkOf_1 : decode cX2_milkOf 1 = .ok (.iload_n 1, 1) := by decide +kernel
theorem dX2_milkOf_2 : decode cX2_milkOf 2 = .ok (.invokevirtual 67, 3) := by decide +kernel
theorem dX2_milkOf_5 : decode cX2_milkOf 5 = .ok (.iload_n 2, 1) := by decide +kernel
theorem dX2_milkOf_6 : decode cX2_milkOf 6 = .ok (.ifCond .lt 10, 3) := by decide +kernel
theorem dX2_milkOf_9 : decode cX2_milkOf 9 = .ok (.iload_n 2, 1) := by decide +kernel
theorem dX2_milkOf_10 : decode cX2_milkOf 10 = .ok (.sipush 999, 3) := by decide +kernel
theorem dX2_milkOf_13 : decode cX2_milkOf 13 = .ok (.if_icmp .le 13, 3) := by decide +kernel
theorem dX2_milkOf_16 : decode cX2_milkOf 16 = .ok (.new 48, 3) := by decide +kernel
theorem dX2_milkOf_19 : decode cX2_milkOf 19 = .ok (.dup, 1) := by decide +kernel
theorem dX2_milkOf_20 : decode cX2_milkOf 20 = .ok (.ldc 82, 2) := by decide +kernel
theorem dX2_milkOf_22 : decode cX2_milkOf 22 = .ok (.invokespecial 52, 3) := by decide +kernel
theorem dX2_milkOf_25 : decode cX2_milkOf 25 = .ok (.athrow, 1) := by decide +kernel
theorem dX2_milkOf_26 : decode cX2_milkOf 26 = .ok (.aload_n 0, 1) := by decide +kernel
theorem dX2_milkOf_27 : decode cX2_milkOf 27 = .ok (.getfield 16, 3) := by decide +kernel
theorem dX2_milkOf_30 : decode cX2_milkOf 30 = .ok (.iload_n 1, 1) := by decide +kernel
theorem dX2_milkOf_31 : decode cX2_milkOf 31 = .ok (.iload_n 2, 1) := by decide +kernel
theorem dX2_milkOf_32 : decode cX2_milkOf 32 = .ok (.invokevirtual 84, 3) := by decide +kernel
theorem dX2_milkOf_35 : decode cX2_milkOf 35 = .ok (.ireturn, 1) := by decide +kernel
theorem dX2_inTank_0 : decode cX2_inTank 0 = .ok (.aload_n 0, 1) := by decide +kernel
theorem dX2_inTank_1 : decode cX2_inTank 1 = .ok (.iload_n 1, 1) := by decide +kernel
theorem dX2_inTank_2 : decode cX2_inTank 2 = .ok (.invokevirtual 67, 3) := by decide +kernel
theorem dX2_inTank_5 : decode cX2_inTank 5 = .ok (.aload_n 0, 1) := by decide +kernel
theorem dX2_inTank_6 : decode cX2_inTank 6 = .ok (.getfield 16, 3) := by decide +kernel
theorem dX2_inTank_9 : decode cX2_inTank 9 = .ok (.getfield 87, 3) := by decide +kernel
theorem dX2_inTank_12 : decode cX2_inTank 12 = .ok (.iload_n 1, 1) := by decide +kernel
theorem dX2_inTank_13 : decode cX2_inTank 13 = .ok (.iaload, 1) := by decide +kernel
theorem dX2_inTank_14 : decode cX2_inTank 14 = .ok (.ireturn, 1) := by decide +kernel
theorem dX2_pass_0 : decode cX2_pass 0 = .ok (.iload_n 1, 1) := by decide +kernel
theorem dX2_pass_1 : decode cX2_pass 1 = .ok (.iconst 1, 1) := by decide +kernel
theorem dX2_pass_2 : decode cX2_pass 2 = .ok (.if_icmp .lt 21, 3) := by decide +kernel
theorem dX2_pass_5 : decode cX2_pass 5 = .ok (.iload_n 1, 1) := by decide +kernel
theorem dX2_pass_6 : decode cX2_pass 6 = .ok (.bipush 30, 2) := by decide +kernel
theorem dX2_pass_8 : decode cX2_pass 8 = .ok (.if_icmp .gt 15, 3) := by decide +kernel
theorem dX2_pass_11 : decode cX2_pass 11 = .ok (.aload_n 0, 1) := by decide +kernel
theorem dX2_pass_12 : decode cX2_pass 12 = .ok (.getfield 7, 3) := by decide +kernel
theorem dX2_pass_15 : decode cX2_pass 15 = .ok (.iload_n 1, 1) := by decide +kernel
theorem dX2_pass_16 : decode cX2_pass 16 = .ok (.iadd, 1) := by decide +kernel
theorem dX2_pass_17 : decode cX2_pass 17 = .ok (.sipush 999, 3) := by decide +kernel
theorem dX2_pass_20 : decode cX2_pass 20 = .ok (.if_icmp .le 13, 3) := by decide +kernel
theorem dX2_pass_23 : decode cX2_pass 23 = .ok (.new 48, 3) := by decide +kernel
theorem dX2_pass_26 : decode cX2_pass 26 = .ok (.dup, 1) := by decide +kernel
theorem dX2_pass_27 : decode cX2_pass 27 = .ok (.ldc 90, 2) := by decide +kernel
theorem dX2_pass_29 : decode cX2_pass 29 = .ok (.invokespecial 52, 3) := by decide +kernel
theorem dX2_pass_32 : decode cX2_pass 32 = .ok (.athrow, 1) := by decide +kernel
theorem dX2_pass_33 : decode cX2_pass 33 = .ok (.iconst 0, 1) := by decide +kernel
theorem dX2_pass_34 : decode cX2_pass 34 = .ok (.istore_n 2, 1) := by decide +kernel
theorem dX2_pass_35 : decode cX2_pass 35 = .ok (.iconst 0, 1) := by decide +kernel
theorem dX2_pass_36 : decode cX2_pass 36 = .ok (.istore_n 3, 1) := by decide +kernel
theorem dX2_pass_37 : decode cX2_pass 37 = .ok (.iload_n 3, 1) := by decide +kernel
theorem dX2_pass_38 : decode cX2_pass 38 = .ok (.iload_n 1, 1) := by decide +kernel
theorem dX2_pass_39 : decode cX2_pass 39 = .ok (.if_icmp .ge 33, 3) := by decide +kernel
theorem dX2_pass_42 : decode cX2_pass 42 = .ok (.aload_n 0, 1) := by decide +kernel
theorem dX2_pass_43 : decode cX2_pass 43 = .ok (.dup, 1) := by decide +kernel
theorem dX2_pass_44 : decode cX2_pass 44 = .ok (.getfield 7, 3) := by decide +kernel
theorem dX2_pass_47 : decode cX2_pass 47 = .ok (.iconst 1, 1) := by decide +kernel
theorem dX2_pass_48 : decode cX2_pass 48 = .ok (.iadd, 1) := by decide +kernel
theorem dX2_pass_49 : decode cX2_pass 49 = .ok (.putfield 7, 3) := by decide +kernel
theorem dX2_pass_52 : decode cX2_pass 52 = .ok (.iload_n 2, 1) := by decide +kernel
theorem dX2_pass_53 : decode cX2_pass 53 = .ok (.aload_n 0, 1) := by decide +kernel
theorem dX2_pass_54 : decode cX2_pass 54 = .ok (.getfield 16, 3) := by decide +kernel
theorem dX2_pass_57 : decode cX2_pass 57 = .ok (.aload_n 0, 1) := by decide +kernel
theorem dX2_pass_58 : decode cX2_pass 58 = .ok (.getfield 7, 3) := by decide +kernel
theorem dX2_pass_61 : decode cX2_pass 61 = .ok (.invokevirtual 92, 3) := by decide +kernel
theorem dX2_pass_64 : decode cX2_pass 64 = .ok (.iadd, 1) := by decide +kernel
theorem dX2_pass_65 : decode cX2_pass 65 = .ok (.istore_n 2, 1) := by decide +kernel
theorem dX2_pass_66 : decode cX2_pass 66 = .ok (.iinc 3 1, 3) := by decide +kernel
theorem dX2_pass_69 : decode cX2_pass 69 = .ok (.goto (-32), 3) := by decide +kernel
theorem dX2_pass_72 : decode cX2_pass 72 = .ok (.iload_n 2, 1) := by decide +kernel
theorem dX2_pass_73 : decode cX2_pass 73 = .ok (.ireturn, 1) := by decide +kernel
theorem dX2_day_0 : decode cX2_day 0 = .ok (.aload_n 0, 1) := by decide +kernel
theorem dX2_day_1 : decode cX2_day 1 = .ok (.getfield 7, 3) := by decide +kernel
theorem dX2_day_4 : decode cX2_day 4 = .ok (.ireturn, 1) := by decide +kernel
theorem dX2_addVat_0 : decode cX2_addVat 0 = .ok (.iload_n 1, 1) := by decide +kernel
theorem dX2_addVat_1 : decode cX2_addVat 1 = .ok (.bipush 100, 2) := by decide +kernel
theorem dX2_addVat_3 : decode cX2_addVat 3 = .ok (.if_icmp .lt 10, 3) := by decide +kernel
theorem dX2_addVat_6 : decode cX2_addVat 6 = .ok (.iload_n 1, 1) := by decide +kernel
theorem dX2_addVat_7 : decode cX2_addVat 7 = .ok (.sipush 900, 3) := by decide +kernel
theorem dX2_addVat_10 : decode cX2_addVat 10 = .ok (.if_icmp .le 13, 3) := by decide +kernel
theorem dX2_addVat_13 : decode cX2_addVat 13 = .ok (.new 48, 3) := by decide +kernel
theorem dX2_addVat_16 : decode cX2_addVat 16 = .ok (.dup, 1) := by decide +kernel
theorem dX2_addVat_17 : decode cX2_addVat 17 = .ok (.ldc 95, 2) := by decide +kernel
theorem dX2_addVat_19 : decode cX2_addVat 19 = .ok (.invokespecial 52, 3) := by decide +kernel
theorem dX2_addVat_22 : decode cX2_addVat 22 = .ok (.athrow, 1) := by decide +kernel
theorem dX2_addVat_23 : decode cX2_addVat 23 = .ok (.aload_n 0, 1) := by decide +kernel
theorem dX2_addVat_24 : decode cX2_addVat 24 = .ok (.getfield 20, 3) := by decide +kernel
theorem dX2_addVat_27 : decode cX2_addVat 27 = .ok (.iconst 4, 1) := by decide +kernel
theorem dX2_addVat_28 : decode cX2_addVat 28 = .ok (.if_icmp .lt 13, 3) := by decide +kernel
theorem dX2_addVat_31 : decode cX2_addVat 31 = .ok (.new 58, 3) := by decide +kernel
theorem dX2_addVat_34 : decode cX2_addVat 34 = .ok (.dup, 1) := by decide +kernel
theorem dX2_addVat_35 : decode cX2_addVat 35 = .ok (.ldc 97, 2) := by decide +kernel
theorem dX2_addVat_37 : decode cX2_addVat 37 = .ok (.invokespecial 62, 3) := by decide +kernel
theorem dX2_addVat_40 : decode cX2_addVat 40 = .ok (.athrow, 1) := by decide +kernel
theorem dX2_addVat_41 : decode cX2_addVat 41 = .ok (.aload_n 0, 1) := by decide +kernel
theorem dX2_addVat_42 : decode cX2_addVat 42 = .ok (.getfield 23, 3) := by decide +kernel
theorem dX2_addVat_45 : decode cX2_addVat 45 = .ok (.aload_n 0, 1) := by decide +kernel
theorem dX2_addVat_46 : decode cX2_addVat 46 = .ok (.getfield 20, 3) := by decide +kernel
theorem dX2_addVat_49 : decode cX2_addVat 49 = .ok (.iload_n 1, 1) := by decide +kernel
theorem dX2_addVat_50 : decode cX2_addVat 50 = .ok (.iastore, 1) := by decide +kernel
theorem dX2_addVat_51 : decode cX2_addVat 51 = .ok (.aload_n 0, 1) := by decide +kernel
theorem dX2_addVat_52 : decode cX2_addVat 52 = .ok (.dup, 1) := by decide +kernel
theorem dX2_addVat_53 : decode cX2_addVat 53 = .ok (.getfield 20, 3) := by decide +kernel
theorem dX2_addVat_56 : decode cX2_addVat 56 = .ok (.dup_x1, 1) := by decide +kernel
theorem dX2_addVat_57 : decode cX2_addVat 57 = .ok (.iconst 1, 1) := by decide +kernel
theorem dX2_addVat_58 : decode cX2_addVat 58 = .ok (.iadd, 1) := by decide +kernel
theorem dX2_addVat_59 : decode cX2_addVat 59 = .ok (.putfield 20, 3) := by decide +kernel
theorem dX2_addVat_62 : decode cX2_addVat 62 = .ok (.ireturn, 1) := by decide +kernel
theorem dX2_beginRound_0 : decode cX2_beginRound 0 = .ok (.aload_n 0, 1) := by decide +kernel
theorem dX2_beginRound_1 : decode cX2_beginRound 1 = .ok (.getfield 30, 3) := by decide +kernel
theorem dX2_beginRound_4 : decode cX2_beginRound 4 = .ok (.ifCond .eq 13, 3) := by decide +kernel
theorem dX2_beginRound_7 : decode cX2_beginRound 7 = .ok (.new 58, 3) := by decide +kernel
theorem dX2_beginRound_10 : decode cX2_beginRound 10 = .ok (.dup, 1) := by decide +kernel
theorem dX2_beginRound_11 : decode cX2_beginRound 11 = .ok (.ldc 99, 2) := by decide +kernel
theorem dX2_beginRound_13 : decode cX2_beginRound 13 = .ok (.invokespecial 62, 3) := by decide +kernel
theorem dX2_beginRound_16 : decode cX2_beginRound 16 = .ok (.athrow, 1) := by decide +kernel
theorem dX2_beginRound_17 : decode cX2_beginRound 17 = .ok (.aload_n 0, 1) := by decide +kernel
theorem dX2_beginRound_18 : decode cX2_beginRound 18 = .ok (.iconst 1, 1) := by decide +kernel
theorem dX2_beginRound_19 : decode cX2_beginRound 19 = .ok (.putfield 30, 3) := by decide +kernel
theorem dX2_beginRound_22 : decode cX2_beginRound 22 = .ok (.iconst 0, 1) := by decide +kernel
theorem dX2_beginRound_23 : decode cX2_beginRound 23 = .ok (.istore_n 1, 1) := by decide +kernel
theorem dX2_beginRound_24 : decode cX2_beginRound 24 = .ok (.iload_n 1, 1) := by decide +kernel
theorem dX2_beginRound_25 : decode cX2_beginRound 25 = .ok (.bipush 6, 2) := by decide +kernel
theorem dX2_beginRound_27 : decode cX2_beginRound 27 = .ok (.if_icmp .ge 16, 3) := by decide +kernel
theorem dX2_beginRound_30 : decode cX2_beginRound 30 = .ok (.aload_n 0, 1) := by decide +kernel
theorem dX2_beginRound_31 : decode cX2_beginRound 31 = .ok (.getfield 34, 3) := by decide +kernel
theorem dX2_beginRound_34 : decode cX2_beginRound 34 = .ok (.iload_n 1, 1) := by decide +kernel
theorem dX2_beginRound_35 : decode cX2_beginRound 35 = .ok (.iconst 0, 1) := by decide +kernel
theorem dX2_beginRound_36 : decode cX2_beginRound 36 = .ok (.bastore, 1) := by decide +kernel
theorem dX2_beginRound_37 : decode cX2_beginRound 37 = .ok (.iinc 1 1, 3) := by decide +kernel
theorem dX2_beginRound_40 : decode cX2_beginRound 40 = .ok (.goto (-16), 3) := by decide +kernel
theorem dX2_beginRound_43 : decode cX2_beginRound 43 = .ok (.aload_n 0, 1) := by decide +kernel
theorem dX2_beginRound_44 : decode cX2_beginRound 44 = .ok (.dup, 1) := by decide +kernel
theorem dX2_beginRound_45 : decode cX2_beginRound 45 = .ok (.getfield 27, 3) := by decide +kernel
theorem dX2_beginRound_48 : decode cX2_beginRound 48 = .ok (.iconst 1, 1) := by decide +kernel
theorem dX2_beginRound_49 : decode cX2_beginRound 49 = .ok (.iadd, 1) := by decide +kernel
theorem dX2_beginRound_50 : decode cX2_beginRound 50 = .ok (.putfield 27, 3) := by decide +kernel
theorem dX2_beginRound_53 : decode cX2_beginRound 53 = .ok (.aload_n 0, 1) := by decide +kernel
theorem dX2_beginRound_54 : decode cX2_beginRound 54 = .ok (.getfield 27, 3) := by decide +kernel
theorem dX2_beginRound_57 : decode cX2_beginRound 57 = .ok (.ireturn, 1) := by decide +kernel
theorem dX2_visit_0 : decode cX2_visit 0 = .ok (.aload_n 0, 1) := by decide +kernel
theorem dX2_visit_1 : decode cX2_visit 1 = .ok (.iload_n 1, 1) := by decide +kernel
theorem dX2_visit_2 : decode cX2_visit 2 = .ok (.invokevirtual 67, 3) := by decide +kernel
theorem dX2_visit_5 : decode cX2_visit 5 = .ok (.aload_n 0, 1) := by decide +kernel
theorem dX2_visit_6 : decode cX2_visit 6 = .ok (.getfield 30, 3) := by decide +kernel
theorem dX2_visit_9 : decode cX2_visit 9 = .ok (.ifCond .ne 13, 3) := by decide +kernel
theorem dX2_visit_12 : decode cX2_visit 12 = .ok (.new 58, 3) := by decide +kernel
theorem dX2_visit_15 : decode cX2_visit 15 = .ok (.dup, 1) := by decide +kernel
theorem dX2_visit_16 : decode cX2_visit 16 = .ok (.ldc 101, 2) := by decide +kernel
theorem dX2_visit_18 : decode cX2_visit 18 = .ok (.invokespecial 62, 3) := by decide +kernel
theorem dX2_visit_21 : decode cX2_visit 21 = .ok (.athrow, 1) := by decide +kernel
theorem dX2_visit_22 : decode cX2_visit 22 = .ok (.aload_n 0, 1) := by decide +kernel
theorem dX2_visit_23 : decode cX2_visit 23 = .ok (.getfield 34, 3) := by decide +kernel
theorem dX2_visit_26 : decode cX2_visit 26 = .ok (.iload_n 1, 1) := by decide +kernel
theorem dX2_visit_27 : decode cX2_visit 27 = .ok (.baload, 1) := by decide +kernel
theorem dX2_visit_28 : decode cX2_visit 28 = .ok (.ifCond .eq 13, 3) := by decide +kernel
theorem dX2_visit_31 : decode cX2_visit 31 = .ok (.new 58, 3) := by decide +kernel
theorem dX2_visit_34 : decode cX2_visit 34 = .ok (.dup, 1) := by decide +kernel
theorem dX2_visit_35 : decode cX2_visit 35 = .ok (.ldc 103, 2) := by decide +kernel
theorem dX2_visit_37 : decode cX2_visit 37 = .ok (.invokespecial 62, 3) := by decide +kernel
theorem dX2_visit_40 : decode cX2_visit 40 = .ok (.athrow, 1) := by decide +kernel
theorem dX2_visit_41 : decode cX2_visit 41 = .ok (.aload_n 0, 1) := by decide +kernel
theorem dX2_visit_42 : decode cX2_visit 42 = .ok (.getfield 41, 3) := by decide +kernel
theorem dX2_visit_45 : decode cX2_visit 45 = .ok (.getfield 105, 3) := by decide +kernel
theorem dX2_visit_48 : decode cX2_visit 48 = .ok (.bipush 100, 2) := by decide +kernel
theorem dX2_visit_50 : decode cX2_visit 50 = .ok (.if_icmp .lt 13, 3) := by decide +kernel
theorem dX2_visit_53 : decode cX2_visit 53 = .ok (.new 58, 3) := by decide +kernel
theorem dX2_visit_56 : decode cX2_visit 56 = .ok (.dup, 1) := by decide +kernel
theorem dX2_visit_57 : decode cX2_visit 57 = .ok (.ldc 106, 2) := by decide +kernel
theorem dX2_visit_59 : decode cX2_visit 59 = .ok (.invokespecial 62, 3) := by decide +kernel
theorem dX2_visit_62 : decode cX2_visit 62 = .ok (.athrow, 1) := by decide +kernel
theorem dX2_visit_63 : decode cX2_visit 63 = .ok (.aload_n 0, 1) := by decide +kernel
theorem dX2_visit_64 : decode cX2_visit 64 = .ok (.getfield 16, 3) := by decide +kernel
theorem dX2_visit_67 : decode cX2_visit 67 = .ok (.iload_n 1, 1) := by decide +kernel
theorem dX2_visit_68 : decode cX2_visit 68 = .ok (.sipush 400, 3) := by decide +kernel
theorem dX2_visit_71 : decode cX2_visit 71 = .ok (.aload_n 0, 1) := by decide +kernel
theorem dX2_visit_72 : decode cX2_visit 72 = .ok (.invokevirtual 108, 3) := by decide +kernel
theorem dX2_visit_75 : decode cX2_visit 75 = .ok (.isub, 1) := by decide +kernel
theorem dX2_visit_76 : decode cX2_visit 76 = .ok (.invokevirtual 112, 3) := by decide +kernel
theorem dX2_visit_79 : decode cX2_visit 79 = .ok (.istore_n 2, 1) := by decide +kernel
theorem dX2_visit_80 : decode cX2_visit 80 = .ok (.aload_n 0, 1) := by decide +kernel
theorem dX2_visit_81 : decode cX2_visit 81 = .ok (.getfield 34, 3) := by decide +kernel
theorem dX2_visit_84 : decode cX2_visit 84 = .ok (.iload_n 1, 1) := by decide +kernel
theorem dX2_visit_85 : decode cX2_visit 85 = .ok (.iconst 1, 1) := by decide +kernel
theorem dX2_visit_86 : decode cX2_visit 86 = .ok (.bastore, 1) := by decide +kernel
theorem dX2_visit_87 : decode cX2_visit 87 = .ok (.iload_n 2, 1) := by decide +kernel
theorem dX2_visit_88 : decode cX2_visit 88 = .ok (.ifCond .le 12, 3) := by decide +kernel
theorem dX2_visit_91 : decode cX2_visit 91 = .ok (.aload_n 0, 1) := by decide +kernel
theorem dX2_visit_92 : decode cX2_visit 92 = .ok (.getfield 41, 3) := by decide +kernel
theorem dX2_visit_95 : decode cX2_visit 95 = .ok (.iload_n 1, 1) := by decide +kernel
theorem dX2_visit_96 : decode cX2_visit 96 = .ok (.iload_n 2, 1) := by decide +kernel
theorem dX2_visit_97 : decode cX2_visit 97 = .ok (.invokevirtual 115, 3) := by decide +kernel
theorem dX2_visit_100 : decode cX2_visit 100 = .ok (.iload_n 2, 1) := by decide +kernel
theorem dX2_visit_101 : decode cX2_visit 101 = .ok (.ireturn, 1) := by decide +kernel
theorem dX2_endRound_0 : decode cX2_endRound 0 = .ok (.aload_n 0, 1) := by decide +kernel
theorem dX2_endRound_1 : decode cX2_endRound 1 = .ok (.iload_n 1, 1) := by decide +kernel
theorem dX2_endRound_2 : decode cX2_endRound 2 = .ok (.invokevirtual 118, 3) := by decide +kernel
theorem dX2_endRound_5 : decode cX2_endRound 5 = .ok (.aload_n 0, 1) := by decide +kernel
theorem dX2_endRound_6 : decode cX2_endRound 6 = .ok (.getfield 30, 3) := by decide +kernel
theorem dX2_endRound_9 : decode cX2_endRound 9 = .ok (.ifCond .ne 13, 3) := by decide +kernel
theorem dX2_endRound_12 : decode cX2_endRound 12 = .ok (.new 58, 3) := by decide +kernel
theorem dX2_endRound_15 : decode cX2_endRound 15 = .ok (.dup, 1) := by decide +kernel
theorem dX2_endRound_16 : decode cX2_endRound 16 = .ok (.ldc 101, 2) := by decide +kernel
theorem dX2_endRound_18 : decode cX2_endRound 18 = .ok (.invokespecial 62, 3) := by decide +kernel
theorem dX2_endRound_21 : decode cX2_endRound 21 = .ok (.athrow, 1) := by decide +kernel
theorem dX2_endRound_22 : decode cX2_endRound 22 = .ok (.aload_n 0, 1) := by decide +kernel
theorem dX2_endRound_23 : decode cX2_endRound 23 = .ok (.invokevirtual 108, 3) := by decide +kernel
theorem dX2_endRound_26 : decode cX2_endRound 26 = .ok (.aload_n 0, 1) := by decide +kernel
theorem dX2_endRound_27 : decode cX2_endRound 27 = .ok (.iload_n 1, 1) := by decide +kernel
theorem dX2_endRound_28 : decode cX2_endRound 28 = .ok (.invokevirtual 121, 3) := by decide +kernel
theorem dX2_endRound_31 : decode cX2_endRound 31 = .ok (.if_icmp .le 13, 3) := by decide +kernel
theorem dX2_endRound_34 : decode cX2_endRound 34 = .ok (.new 124, 3) := by decide +kernel
theorem dX2_endRound_37 : decode cX2_endRound 37 = .ok (.dup, 1) := by decide +kernel
theorem dX2_endRound_38 : decode cX2_endRound 38 = .ok (.ldc 126, 2) := by decide +kernel
theorem dX2_endRound_40 : decode cX2_endRound 40 = .ok (.invokespecial 128, 3) := by decide +kernel
theorem dX2_endRound_43 : decode cX2_endRound 43 = .ok (.athrow, 1) := by decide +kernel
theorem dX2_endRound_44 : decode cX2_endRound 44 = .ok (.aload_n 0, 1) := by decide +kernel
theorem dX2_endRound_45 : decode cX2_endRound 45 = .ok (.getfield 41, 3) := by decide +kernel
theorem dX2_endRound_48 : decode cX2_endRound 48 = .ok (.bipush 116, 2) := by decide +kernel
theorem dX2_endRound_50 : decode cX2_endRound 50 = .ok (.iconst 0, 1) := by decide +kernel
theorem dX2_endRound_51 : decode cX2_endRound 51 = .ok (.invokevirtual 129, 3) := by decide +kernel
theorem dX2_endRound_54 : decode cX2_endRound 54 = .ok (.aload_n 0, 1) := by decide +kernel
theorem dX2_endRound_55 : decode cX2_endRound 55 = .ok (.getfield 41, 3) := by decide +kernel
theorem dX2_endRound_58 : decode cX2_endRound 58 = .ok (.bipush 118, 2) := by decide +kernel
theorem dX2_endRound_60 : decode cX2_endRound 60 = .ok (.iload_n 1, 1) := by decide +kernel
theorem dX2_endRound_61 : decode cX2_endRound 61 = .ok (.invokevirtual 129, 3) := by decide +kernel
theorem dX2_endRound_64 : decode cX2_endRound 64 = .ok (.iadd, 1) := by decide +kernel
theorem dX2_endRound_65 : decode cX2_endRound 65 = .ok (.bipush 60, 2) := by decide +kernel
theorem dX2_endRound_67 : decode cX2_endRound 67 = .ok (.if_icmp .le 13, 3) := by decide +kernel
theorem dX2_endRound_70 : decode cX2_endRound 70 = .ok (.new 124, 3) := by decide +kernel
theorem dX2_endRound_73 : decode cX2_endRound 73 = .ok (.dup, 1) := by decide +kernel
theorem dX2_endRound_74 : decode cX2_endRound 74 = .ok (.ldc 133, 2) := by decide +kernel
theorem dX2_endRound_76 : decode cX2_endRound 76 = .ok (.invokespecial 128, 3) := by decide +kernel
theorem dX2_endRound_79 : decode cX2_endRound 79 = .ok (.athrow, 1) := by decide +kernel
theorem dX2_endRound_80 : decode cX2_endRound 80 = .ok (.aload_n 0, 1) := by decide +kernel
theorem dX2_endRound_81 : decode cX2_endRound 81 = .ok (.getfield 41, 3) := by decide +kernel
theorem dX2_endRound_84 : decode cX2_endRound 84 = .ok (.bipush 116, 2) := by decide +kernel
theorem dX2_endRound_86 : decode cX2_endRound 86 = .ok (.iconst 0, 1) := by decide +kernel
theorem dX2_endRound_87 : decode cX2_endRound 87 = .ok (.bipush 118, 2) := by decide +kernel
theorem dX2_endRound_89 : decode cX2_endRound 89 = .ok (.iload_n 1, 1) := by decide +kernel
theorem dX2_endRound_90 : decode cX2_endRound 90 = .ok (.invokevirtual 135, 3) := by decide +kernel
theorem dX2_endRound_93 : decode cX2_endRound 93 = .ok (.aload_n 0, 1) := by decide +kernel
theorem dX2_endRound_94 : decode cX2_endRound 94 = .ok (.iconst 0, 1) := by decide +kernel
theorem dX2_endRound_95 : decode cX2_endRound 95 = .ok (.putfield 30, 3) := by decide +kernel
theorem dX2_endRound_98 : decode cX2_endRound 98 = .ok (.aload_n 0, 1) := by decide +kernel
theorem dX2_endRound_99 : decode cX2_endRound 99 = .ok (.iload_n 1, 1) := by decide +kernel
theorem dX2_endRound_100 : decode cX2_endRound 100 = .ok (.invokevirtual 139, 3) := by decide +kernel
theorem dX2_endRound_103 : decode cX2_endRound 103 = .ok (.ireturn, 1) := by decide +kernel
theorem dX2_inTanker_0 : decode cX2_inTanker 0 = .ok (.aload_n 0, 1) := by decide +kernel
theorem dX2_inTanker_1 : decode cX2_inTanker 1 = .ok (.getfield 41, 3) := by decide +kernel
theorem dX2_inTanker_4 : decode cX2_inTanker 4 = .ok (.bipush 116, 2) := by decide +kernel
theorem dX2_inTanker_6 : decode cX2_inTanker 6 = .ok (.iconst 0, 1) := by decide +kernel
theorem dX2_inTanker_7 : decode cX2_inTanker 7 = .ok (.invokevirtual 142, 3) := by decide +kernel
theorem dX2_inTanker_10 : decode cX2_inTanker 10 = .ok (.ireturn, 1) := by decide +kernel
theorem dX2_inVat_0 : decode cX2_inVat 0 = .ok (.aload_n 0, 1) := by decide +kernel
theorem dX2_inVat_1 : decode cX2_inVat 1 = .ok (.iload_n 1, 1) := by decide +kernel
theorem dX2_inVat_2 : decode cX2_inVat 2 = .ok (.invokevirtual 118, 3) := by decide +kernel
theorem dX2_inVat_5 : decode cX2_inVat 5 = .ok (.aload_n 0, 1) := by decide +kernel
theorem dX2_inVat_6 : decode cX2_inVat 6 = .ok (.getfield 41, 3) := by decide +kernel
theorem dX2_inVat_9 : decode cX2_inVat 9 = .ok (.bipush 118, 2) := by decide +kernel
theorem dX2_inVat_11 : decode cX2_inVat 11 = .ok (.iload_n 1, 1) := by decide +kernel
theorem dX2_inVat_12 : decode cX2_inVat 12 = .ok (.invokevirtual 142, 3) := by decide +kernel
theorem dX2_inVat_15 : decode cX2_inVat 15 = .ok (.ireturn, 1) := by decide +kernel
theorem dX2_bestVat_0 : decode cX2_bestVat 0 = .ok (.aload_n 0, 1) := by decide +kernel
theorem dX2_bestVat_1 : decode cX2_bestVat 1 = .ok (.invokevirtual 108, 3) := by decide +kernel
theorem dX2_bestVat_4 : decode cX2_bestVat 4 = .ok (.istore_n 1, 1) := by decide +kernel
theorem dX2_bestVat_5 : decode cX2_bestVat 5 = .ok (.iconst (-1), 1) := by decide +kernel
theorem dX2_bestVat_6 : decode cX2_bestVat 6 = .ok (.istore_n 2, 1) := by decide +kernel
theorem dX2_bestVat_7 : decode cX2_bestVat 7 = .ok (.iconst 0, 1) := by decide +kernel
theorem dX2_bestVat_8 : decode cX2_bestVat 8 = .ok (.istore_n 3, 1) := by decide +kernel
theorem dX2_bestVat_9 : decode cX2_bestVat 9 = .ok (.iconst 0, 1) := by decide +kernel
theorem dX2_bestVat_10 : decode cX2_bestVat 10 = .ok (.istore 4, 2) := by decide +kernel
theorem dX2_bestVat_12 : decode cX2_bestVat 12 = .ok (.iload 4, 2) := by decide +kernel
theorem dX2_bestVat_14 : decode cX2_bestVat 14 = .ok (.aload_n 0, 1) := by decide +kernel
theorem dX2_bestVat_15 : decode cX2_bestVat 15 = .ok (.getfield 20, 3) := by decide +kernel
theorem dX2_bestVat_18 : decode cX2_bestVat 18 = .ok (.if_icmp .ge 39, 3) := by decide +kernel
theorem dX2_bestVat_21 : decode cX2_bestVat 21 = .ok (.aload_n 0, 1) := by decide +kernel
theorem dX2_bestVat_22 : decode cX2_bestVat 22 = .ok (.iload 4, 2) := by decide +kernel
theorem dX2_bestVat_24 : decode cX2_bestVat 24 = .ok (.invokevirtual 121, 3) := by decide +kernel
theorem dX2_bestVat_27 : decode cX2_bestVat 27 = .ok (.istore 5, 2) := by decide +kernel
theorem dX2_bestVat_29 : decode cX2_bestVat 29 = .ok (.iload 5, 2) := by decide +kernel
theorem dX2_bestVat_31 : decode cX2_bestVat 31 = .ok (.iload_n 1, 1) := by decide +kernel
theorem dX2_bestVat_32 : decode cX2_bestVat 32 = .ok (.if_icmp .lt 19, 3) := by decide +kernel
theorem dX2_bestVat_35 : decode cX2_bestVat 35 = .ok (.iload_n 2, 1) := by decide +kernel
theorem dX2_bestVat_36 : decode cX2_bestVat 36 = .ok (.ifCond .lt 9, 3) := by decide +kernel
theorem dX2_bestVat_39 : decode cX2_bestVat 39 = .ok (.iload 5, 2) := by decide +kernel
theorem dX2_bestVat_41 : decode cX2_bestVat 41 = .ok (.iload_n 3, 1) := by decide +kernel
theorem dX2_bestVat_42 : decode cX2_bestVat 42 = .ok (.if_icmp .ge 9, 3) := by decide +kernel
theorem dX2_bestVat_45 : decode cX2_bestVat 45 = .ok (.iload 4, 2) := by decide +kernel
theorem dX2_bestVat_47 : decode cX2_bestVat 47 = .ok (.istore_n 2, 1) := by decide +kernel
theorem dX2_bestVat_48 : decode cX2_bestVat 48 = .ok (.iload 5, 2) := by decide +kernel
theorem dX2_bestVat_50 : decode cX2_bestVat 50 = .ok (.istore_n 3, 1) := by decide +kernel
theorem dX2_bestVat_51 : decode cX2_bestVat 51 = .ok (.iinc 4 1, 3) := by decide +kernel
theorem dX2_bestVat_54 : decode cX2_bestVat 54 = .ok (.goto (-42), 3) := by decide +kernel
theorem dX2_bestVat_57 : decode cX2_bestVat 57 = .ok (.iload_n 2, 1) := by decide +kernel
theorem dX2_bestVat_58 : decode cX2_bestVat 58 = .ok (.ifCond .ge 13, 3) := by decide +kernel
theorem dX2_bestVat_61 : decode cX2_bestVat 61 = .ok (.new 145, 3) := by decide +kernel
theorem dX2_bestVat_64 : decode cX2_bestVat 64 = .ok (.dup, 1) := by decide +kernel
theorem dX2_bestVat_65 : decode cX2_bestVat 65 = .ok (.ldc 147, 2) := by decide +kernel
theorem dX2_bestVat_67 : decode cX2_bestVat 67 = .ok (.invokespecial 149, 3) := by decide +kernel
theorem dX2_bestVat_70 : decode cX2_bestVat 70 = .ok (.athrow, 1) := by decide +kernel
theorem dX2_bestVat_71 : decode cX2_bestVat 71 = .ok (.iload_n 2, 1) := by decide +kernel
theorem dX2_bestVat_72 : decode cX2_bestVat 72 = .ok (.ireturn, 1) := by decide +kernel
theorem dX2_close_0 : decode cX2_close 0 = .ok (.aload_n 0, 1) := by decide +kernel
theorem dX2_close_1 : decode cX2_close 1 = .ok (.iload_n 1, 1) := by decide +kernel
theorem dX2_close_2 : decode cX2_close 2 = .ok (.invokevirtual 118, 3) := by decide +kernel
theorem dX2_close_5 : decode cX2_close 5 = .ok (.aload_n 0, 1) := by decide +kernel
theorem dX2_close_6 : decode cX2_close 6 = .ok (.iload_n 1, 1) := by decide +kernel
theorem dX2_close_7 : decode cX2_close 7 = .ok (.invokevirtual 139, 3) := by decide +kernel
theorem dX2_close_10 : decode cX2_close 10 = .ok (.ifCond .ne 13, 3) := by decide +kernel
theorem dX2_close_13 : decode cX2_close 13 = .ok (.new 124, 3) := by decide +kernel
theorem dX2_close_16 : decode cX2_close 16 = .ok (.dup, 1) := by decide +kernel
theorem dX2_close_17 : decode cX2_close 17 = .ok (.ldc 150, 2) := by decide +kernel
theorem dX2_close_19 : decode cX2_close 19 = .ok (.invokespecial 128, 3) := by decide +kernel
theorem dX2_close_22 : decode cX2_close 22 = .ok (.athrow, 1) := by decide +kernel
theorem dX2_close_23 : decode cX2_close 23 = .ok (.aload_n 0, 1) := by decide +kernel
theorem dX2_close_24 : decode cX2_close 24 = .ok (.getfield 45, 3) := by decide +kernel
theorem dX2_close_27 : decode cX2_close 27 = .ok (.bipush 20, 2) := by decide +kernel
theorem dX2_close_29 : decode cX2_close 29 = .ok (.if_icmp .lt 13, 3) := by decide +kernel
theorem dX2_close_32 : decode cX2_close 32 = .ok (.new 58, 3) := by decide +kernel
theorem dX2_close_35 : decode cX2_close 35 = .ok (.dup, 1) := by decide +kernel
theorem dX2_close_36 : decode cX2_close 36 = .ok (.ldc 152, 2) := by decide +kernel
theorem dX2_close_38 : decode cX2_close 38 = .ok (.invokespecial 62, 3) := by decide +kernel
theorem dX2_close_41 : decode cX2_close 41 = .ok (.athrow, 1) := by decide +kernel
theorem dX2_close_42 : decode cX2_close 42 = .ok (.aload_n 0, 1) := by decide +kernel
theorem dX2_close_43 : decode cX2_close 43 = .ok (.getfield 45, 3) := by decide +kernel
theorem dX2_close_46 : decode cX2_close 46 = .ok (.istore_n 2, 1) := by decide +kernel
theorem dX2_close_47 : decode cX2_close 47 = .ok (.aload_n 0, 1) := by decide +kernel
theorem dX2_close_48 : decode cX2_close 48 = .ok (.dup, 1) := by decide +kernel
theorem dX2_close_49 : decode cX2_close 49 = .ok (.getfield 45, 3) := by decide +kernel
theorem dX2_close_52 : decode cX2_close 52 = .ok (.iconst 1, 1) := by decide +kernel
theorem dX2_close_53 : decode cX2_close 53 = .ok (.iadd, 1) := by decide +kernel
theorem dX2_close_54 : decode cX2_close 54 = .ok (.putfield 45, 3) := by decide +kernel
theorem dX2_close_57 : decode cX2_close 57 = .ok (.aload_n 0, 1) := by decide +kernel
theorem dX2_close_58 : decode cX2_close 58 = .ok (.getfield 41, 3) := by decide +kernel
theorem dX2_close_61 : decode cX2_close 61 = .ok (.bipush 118, 2) := by decide +kernel
theorem dX2_close_63 : decode cX2_close 63 = .ok (.iload_n 1, 1) := by decide +kernel
theorem dX2_close_64 : decode cX2_close 64 = .ok (.bipush 98, 2) := by decide +kernel
theorem dX2_close_66 : decode cX2_close 66 = .ok (.iload_n 2, 1) := by decide +kernel
theorem dX2_close_67 : decode cX2_close 67 = .ok (.invokevirtual 135, 3) := by decide +kernel
theorem dX2_close_70 : decode cX2_close 70 = .ok (.aload_n 0, 1) := by decide +kernel
theorem dX2_close_71 : decode cX2_close 71 = .ok (.getfield 41, 3) := by decide +kernel
theorem dX2_close_74 : decode cX2_close 74 = .ok (.iload_n 2, 1) := by decide +kernel
theorem dX2_close_75 : decode cX2_close 75 = .ok (.invokevirtual 154, 3) := by decide +kernel
theorem dX2_close_78 : decode cX2_close 78 = .ok (.iload_n 2, 1) := by decide +kernel
theorem dX2_close_79 : decode cX2_close 79 = .ok (.ireturn, 1) := by decide +kernel
theorem dX2_samples_0 : decode cX2_samples 0 = .ok (.aload_n 0, 1) := by decide +kernel
theorem dX2_samples_1 : decode cX2_samples 1 = .ok (.getfield 41, 3) := by decide +kernel
theorem dX2_samples_4 : decode cX2_samples 4 = .ok (.getfield 105, 3) := by decide +kernel
theorem dX2_samples_7 : decode cX2_samples 7 = .ok (.ireturn, 1) := by decide +kernel
theorem dX2_farmOf_0 : decode cX2_farmOf 0 = .ok (.aload_n 0, 1) := by decide +kernel
theorem dX2_farmOf_1 : decode cX2_farmOf 1 = .ok (.iload_n 1, 1) := by decide +kernel
theorem dX2_farmOf_2 : decode cX2_farmOf 2 = .ok (.invokevirtual 157, 3) := by decide +kernel
theorem dX2_farmOf_5 : decode cX2_farmOf 5 = .ok (.aload_n 0, 1) := by decide +kernel
theorem dX2_farmOf_6 : decode cX2_farmOf 6 = .ok (.getfield 41, 3) := by decide +kernel
theorem dX2_farmOf_9 : decode cX2_farmOf 9 = .ok (.getfield 160, 3) := by decide +kernel
theorem dX2_farmOf_12 : decode cX2_farmOf 12 = .ok (.iload_n 1, 1) := by decide +kernel
theorem dX2_farmOf_13 : decode cX2_farmOf 13 = .ok (.iaload, 1) := by decide +kernel
theorem dX2_farmOf_14 : decode cX2_farmOf 14 = .ok (.ireturn, 1) := by decide +kernel
theorem dX2_litres_0 : decode cX2_litres 0 = .ok (.aload_n 0, 1) := by decide +kernel
theorem dX2_litres_1 : decode cX2_litres 1 = .ok (.iload_n 1, 1) := by decide +kernel
theorem dX2_litres_2 : decode cX2_litres 2 = .ok (.invokevirtual 157, 3) := by decide +kernel
theorem dX2_litres_5 : decode cX2_litres 5 = .ok (.aload_n 0, 1) := by decide +kernel
theorem dX2_litres_6 : decode cX2_litres 6 = .ok (.getfield 41, 3) := by decide +kernel
theorem dX2_litres_9 : decode cX2_litres 9 = .ok (.getfield 163, 3) := by decide +kernel
theorem dX2_litres_12 : decode cX2_litres 12 = .ok (.iload_n 1, 1) := by decide +kernel
theorem dX2_litres_13 : decode cX2_litres 13 = .ok (.iaload, 1) := by decide +kernel
theorem dX2_litres_14 : decode cX2_litres 14 = .ok (.ireturn, 1) := by decide +kernel
theorem dX2_grade_0 : decode cX2_grade 0 = .ok (.aload_n 0, 1) := by decide +kernel
theorem dX2_grade_1 : decode cX2_grade 1 = .ok (.iload_n 1, 1) := by decide +kernel
theorem dX2_grade_2 : decode cX2_grade 2 = .ok (.invokevirtual 157, 3) := by decide +kernel
theorem dX2_grade_5 : decode cX2_grade 5 = .ok (.iload_n 2, 1) := by decide +kernel
theorem dX2_grade_6 : decode cX2_grade 6 = .ok (.bipush 97, 2) := by decide +kernel
theorem dX2_grade_8 : decode cX2_grade 8 = .ok (.if_icmp .eq 31, 3) := by decide +kernel
theorem dX2_grade_11 : decode cX2_grade 11 = .ok (.iload_n 2, 1) := by decide +kernel
theorem dX2_grade_12 : decode cX2_grade 12 = .ok (.bipush 98, 2) := by decide +kernel
theorem dX2_grade_14 : decode cX2_grade 14 = .ok (.if_icmp .eq 25, 3) := by decide +kernel
theorem dX2_grade_17 : decode cX2_grade 17 = .ok (.iload_n 2, 1) := by decide +kernel
theorem dX2_grade_18 : decode cX2_grade 18 = .ok (.bipush 99, 2) := by decide +kernel
theorem dX2_grade_20 : decode cX2_grade 20 = .ok (.if_icmp .eq 19, 3) := by decide +kernel
theorem dX2_grade_23 : decode cX2_grade 23 = .ok (.iload_n 2, 1) := by decide +kernel
theorem dX2_grade_24 : decode cX2_grade 24 = .ok (.bipush 120, 2) := by decide +kernel
theorem dX2_grade_26 : decode cX2_grade 26 = .ok (.if_icmp .eq 13, 3) := by decide +kernel
theorem dX2_grade_29 : decode cX2_grade 29 = .ok (.new 48, 3) := by decide +kernel
theorem dX2_grade_32 : decode cX2_grade 32 = .ok (.dup, 1) := by decide +kernel
theorem dX2_grade_33 : decode cX2_grade 33 = .ok (.ldc 166, 2) := by decide +kernel
theorem dX2_grade_35 : decode cX2_grade 35 = .ok (.invokespecial 52, 3) := by decide +kernel
theorem dX2_grade_38 : decode cX2_grade 38 = .ok (.athrow, 1) := by decide +kernel
theorem dX2_grade_39 : decode cX2_grade 39 = .ok (.aload_n 0, 1) := by decide +kernel
theorem dX2_grade_40 : decode cX2_grade 40 = .ok (.getfield 41, 3) := by decide +kernel
theorem dX2_grade_43 : decode cX2_grade 43 = .ok (.getfield 168, 3) := by decide +kernel
theorem dX2_grade_46 : decode cX2_grade 46 = .ok (.iload_n 1, 1) := by decide +kernel
theorem dX2_grade_47 : decode cX2_grade 47 = .ok (.caload, 1) := by decide +kernel
theorem dX2_grade_48 : decode cX2_grade 48 = .ok (.bipush 45, 2) := by decide +kernel
theorem dX2_grade_50 : decode cX2_grade 50 = .ok (.if_icmp .eq 13, 3) := by decide +kernel
theorem dX2_grade_53 : decode cX2_grade 53 = .ok (.new 58, 3) := by decide +kernel
theorem dX2_grade_56 : decode cX2_grade 56 = .ok (.dup, 1) := by decide +kernel
theorem dX2_grade_57 : decode cX2_grade 57 = .ok (.ldc 172, 2) := by decide +kernel
theorem dX2_grade_59 : decode cX2_grade 59 = .ok (.invokespecial 62, 3) := by decide +kernel
theorem dX2_grade_62 : decode cX2_grade 62 = .ok (.athrow, 1) := by decide +kernel
theorem dX2_grade_63 : decode cX2_grade 63 = .ok (.aload_n 0, 1) := by decide +kernel
theorem dX2_grade_64 : decode cX2_grade 64 = .ok (.getfield 41, 3) := by decide +kernel
theorem dX2_grade_67 : decode cX2_grade 67 = .ok (.getfield 168, 3) := by decide +kernel
theorem dX2_grade_70 : decode cX2_grade 70 = .ok (.iload_n 1, 1) := by decide +kernel
theorem dX2_grade_71 : decode cX2_grade 71 = .ok (.iload_n 2, 1) := by decide +kernel
theorem dX2_grade_72 : decode cX2_grade 72 = .ok (.castore, 1) := by decide +kernel
theorem dX2_grade_73 : decode cX2_grade 73 = .ok (.aload_n 0, 1) := by decide +kernel
theorem dX2_grade_74 : decode cX2_grade 74 = .ok (.getfield 41, 3) := by decide +kernel
theorem dX2_grade_77 : decode cX2_grade 77 = .ok (.getfield 174, 3) := by decide +kernel
theorem dX2_grade_80 : decode cX2_grade 80 = .ok (.iload_n 1, 1) := by decide +kernel
theorem dX2_grade_81 : decode cX2_grade 81 = .ok (.caload, 1) := by decide +kernel
theorem dX2_grade_82 : decode cX2_grade 82 = .ok (.bipush 98, 2) := by decide +kernel
theorem dX2_grade_84 : decode cX2_grade 84 = .ok (.if_icmp .ne 19, 3) := by decide +kernel
theorem dX2_grade_87 : decode cX2_grade 87 = .ok (.aload_n 0, 1) := by decide +kernel
theorem dX2_grade_88 : decode cX2_grade 88 = .ok (.getfield 41, 3) := by decide +kernel
theorem dX2_grade_91 : decode cX2_grade 91 = .ok (.aload_n 0, 1) := by decide +kernel
theorem dX2_grade_92 : decode cX2_grade 92 = .ok (.getfield 41, 3) := by decide +kernel
theorem dX2_grade_95 : decode cX2_grade 95 = .ok (.getfield 177, 3) := by decide +kernel
theorem dX2_grade_98 : decode cX2_grade 98 = .ok (.iload_n 1, 1) := by decide +kernel
theorem dX2_grade_99 : decode cX2_grade 99 = .ok (.iaload, 1) := by decide +kernel
theorem dX2_grade_100 : decode cX2_grade 100 = .ok (.invokevirtual 154, 3) := by decide +kernel
theorem dX2_grade_103 : decode cX2_grade 103 = .ok (.aload_n 0, 1) := by decide +kernel
theorem dX2_grade_104 : decode cX2_grade 104 = .ok (.getfield 41, 3) := by decide +kernel
theorem dX2_grade_107 : decode cX2_grade 107 = .ok (.invokevirtual 180, 3) := by decide +kernel
theorem dX2_grade_110 : decode cX2_grade 110 = .ok (.ireturn, 1) := by decide +kernel
theorem dX2_gradeOf_0 : decode cX2_gradeOf 0 = .ok (.aload_n 0, 1) := by decide +kernel
theorem dX2_gradeOf_1 : decode cX2_gradeOf 1 = .ok (.iload_n 1, 1) := by decide +kernel
theorem dX2_gradeOf_2 : decode cX2_gradeOf 2 = .ok (.invokevirtual 157, 3) := by decide +kernel
theorem dX2_gradeOf_5 : decode cX2_gradeOf 5 = .ok (.aload_n 0, 1) := by decide +kernel
theorem dX2_gradeOf_6 : decode cX2_gradeOf 6 = .ok (.getfield 41, 3) := by decide +kernel
theorem dX2_gradeOf_9 : decode cX2_gradeOf 9 = .ok (.getfield 168, 3) := by decide +kernel
theorem dX2_gradeOf_12 : decode cX2_gradeOf 12 = .ok (.iload_n 1, 1) := by decide +kernel
theorem dX2_gradeOf_13 : decode cX2_gradeOf 13 = .ok (.caload, 1) := by decide +kernel
theorem dX2_gradeOf_14 : decode cX2_gradeOf 14 = .ok (.ireturn, 1) := by decide +kernel
theorem dX2_batches_0 : decode cX2_batches 0 = .ok (.aload_n 0, 1) := by decide +kernel
theorem dX2_batches_1 : decode cX2_batches 1 = .ok (.getfield 45, 3) := by decide +kernel
theorem dX2_batches_4 : decode cX2_batches 4 = .ok (.ireturn, 1) := by decide +kernel
theorem dX2_stateOf_0 : decode cX2_stateOf 0 = .ok (.aload_n 0, 1) := by decide +kernel
theorem dX2_stateOf_1 : decode cX2_stateOf 1 = .ok (.iload_n 1, 1) := by decide +kernel
theorem dX2_stateOf_2 : decode cX2_stateOf 2 = .ok (.invokevirtual 183, 3) := by decide +kernel
theorem dX2_stateOf_5 : decode cX2_stateOf 5 = .ok (.aload_n 0, 1) := by decide +kernel
theorem dX2_stateOf_6 : decode cX2_stateOf 6 = .ok (.getfield 41, 3) := by decide +kernel
theorem dX2_stateOf_9 : decode cX2_stateOf 9 = .ok (.iload_n 1, 1) := by decide +kernel
theorem dX2_stateOf_10 : decode cX2_stateOf 10 = .ok (.invokevirtual 186, 3) := by decide +kernel
theorem dX2_stateOf_13 : decode cX2_stateOf 13 = .ok (.ifCond .eq 6, 3) := by decide +kernel
theorem dX2_stateOf_16 : decode cX2_stateOf 16 = .ok (.bipush 120, 2) := by decide +kernel
theorem dX2_stateOf_18 : decode cX2_stateOf 18 = .ok (.ireturn, 1) := by decide +kernel
theorem dX2_stateOf_19 : decode cX2_stateOf 19 = .ok (.aload_n 0, 1) := by decide +kernel
theorem dX2_stateOf_20 : decode cX2_stateOf 20 = .ok (.getfield 41, 3) := by decide +kernel
theorem dX2_stateOf_23 : decode cX2_stateOf 23 = .ok (.iload_n 1, 1) := by decide +kernel
theorem dX2_stateOf_24 : decode cX2_stateOf 24 = .ok (.invokevirtual 190, 3) := by decide +kernel
theorem dX2_stateOf_27 : decode cX2_stateOf 27 = .ok (.ifCond .eq 8, 3) := by decide +kernel
theorem dX2_stateOf_30 : decode cX2_stateOf 30 = .ok (.bipush 103, 2) := by decide +kernel
theorem dX2_stateOf_32 : decode cX2_stateOf 32 = .ok (.goto 5, 3) := by decide +kernel
theorem dX2_stateOf_35 : decode cX2_stateOf 35 = .ok (.bipush 119, 2) := by decide +kernel
theorem dX2_stateOf_37 : decode cX2_stateOf 37 = .ok (.ireturn, 1) := by decide +kernel
theorem dX2_share_0 : decode cX2_share 0 = .ok (.aload_n 0, 1) := by decide +kernel
theorem dX2_share_1 : decode cX2_share 1 = .ok (.iload_n 1, 1) := by decide +kernel
theorem dX2_share_2 : decode cX2_share 2 = .ok (.invokevirtual 183, 3) := by decide +kernel
theorem dX2_share_5 : decode cX2_share 5 = .ok (.aload_n 0, 1) := by decide +kernel
theorem dX2_share_6 : decode cX2_share 6 = .ok (.getfield 41, 3) := by decide +kernel
theorem dX2_share_9 : decode cX2_share 9 = .ok (.iload_n 1, 1) := by decide +kernel
theorem dX2_share_10 : decode cX2_share 10 = .ok (.iload_n 2, 1) := by decide +kernel
theorem dX2_share_11 : decode cX2_share 11 = .ok (.invokevirtual 193, 3) := by decide +kernel
theorem dX2_share_14 : decode cX2_share 14 = .ok (.istore_n 3, 1) := by decide +kernel
theorem dX2_share_15 : decode cX2_share 15 = .ok (.iload_n 3, 1) := by decide +kernel
theorem dX2_share_16 : decode cX2_share 16 = .ok (.ifCond .ge 13, 3) := by decide +kernel
theorem dX2_share_19 : decode cX2_share 19 = .ok (.new 145, 3) := by decide +kernel
theorem dX2_share_22 : decode cX2_share 22 = .ok (.dup, 1) := by decide +kernel
theorem dX2_share_23 : decode cX2_share 23 = .ok (.ldc 196, 2) := by decide +kernel
theorem dX2_share_25 : decode cX2_share 25 = .ok (.invokespecial 149, 3) := by decide +kernel
theorem dX2_share_28 : decode cX2_share 28 = .ok (.athrow, 1) := by decide +kernel
theorem dX2_share_29 : decode cX2_share 29 = .ok (.iload_n 3, 1) := by decide +kernel
theorem dX2_share_30 : decode cX2_share 30 = .ok (.ireturn, 1) := by decide +kernel
theorem dX2_worth_0 : decode cX2_worth 0 = .ok (.aload_n 0, 1) := by decide +kernel
theorem dX2_worth_1 : decode cX2_worth 1 = .ok (.iload_n 1, 1) := by decide +kernel
theorem dX2_worth_2 : decode cX2_worth 2 = .ok (.invokevirtual 198, 3) := by decide +kernel
theorem dX2_worth_5 : decode cX2_worth 5 = .ok (.aload_n 0, 1) := by decide +kernel
theorem dX2_worth_6 : decode cX2_worth 6 = .ok (.getfield 41, 3) := by decide +kernel
theorem dX2_worth_9 : decode cX2_worth 9 = .ok (.iload_n 1, 1) := by decide +kernel
theorem dX2_worth_10 : decode cX2_worth 10 = .ok (.invokevirtual 201, 3) := by decide +kernel
theorem dX2_worth_13 : decode cX2_worth 13 = .ok (.ireturn, 1) := by decide +kernel
theorem dX2_loss_0 : decode cX2_loss 0 = .ok (.aload_n 0, 1) := by decide +kernel
theorem dX2_loss_1 : decode cX2_loss 1 = .ok (.iload_n 1, 1) := by decide +kernel
theorem dX2_loss_2 : decode cX2_loss 2 = .ok (.invokevirtual 198, 3) := by decide +kernel
theorem dX2_loss_5 : decode cX2_loss 5 = .ok (.aload_n 0, 1) := by decide +kernel
theorem dX2_loss_6 : decode cX2_loss 6 = .ok (.getfield 41, 3) := by decide +kernel
theorem dX2_loss_9 : decode cX2_loss 9 = .ok (.iload_n 1, 1) := by decide +kernel
theorem dX2_loss_10 : decode cX2_loss 10 = .ok (.invokevirtual 204, 3) := by decide +kernel
theorem dX2_loss_13 : decode cX2_loss 13 = .ok (.ireturn, 1) := by decide +kernel
theorem dX2_pay_0 : decode cX2_pay 0 = .ok (.aload_n 0, 1) := by decide +kernel
theorem dX2_pay_1 : decode cX2_pay 1 = .ok (.iload_n 1, 1) := by decide +kernel
theorem dX2_pay_2 : decode cX2_pay 2 = .ok (.invokevirtual 67, 3) := by decide +kernel
theorem dX2_pay_5 : decode cX2_pay 5 = .ok (.lconst 0, 1) := by decide +kernel
theorem dX2_pay_6 : decode cX2_pay 6 = .ok (.lstore_n 2, 1) := by decide +kernel
theorem dX2_pay_7 : decode cX2_pay 7 = .ok (.iconst 0, 1) := by decide +kernel
theorem dX2_pay_8 : decode cX2_pay 8 = .ok (.istore 4, 2) := by decide +kernel
theorem dX2_pay_10 : decode cX2_pay 10 = .ok (.iload 4, 2) := by decide +kernel
theorem dX2_pay_12 : decode cX2_pay 12 = .ok (.aload_n 0, 1) := by decide +kernel
theorem dX2_pay_13 : decode cX2_pay 13 = .ok (.getfield 45, 3) := by decide +kernel
theorem dX2_pay_16 : decode cX2_pay 16 = .ok (.if_icmp .ge 23, 3) := by decide +kernel
theorem dX2_pay_19 : decode cX2_pay 19 = .ok (.lload_n 2, 1) := by decide +kernel
theorem dX2_pay_20 : decode cX2_pay 20 = .ok (.aload_n 0, 1) := by decide +kernel
theorem dX2_pay_21 : decode cX2_pay 21 = .ok (.getfield 41, 3) := by decide +kernel
theorem dX2_pay_24 : decode cX2_pay 24 = .ok (.iload_n 1, 1) := by decide +kernel
theorem dX2_pay_25 : decode cX2_pay 25 = .ok (.iload 4, 2) := by decide +kernel
theorem dX2_pay_27 : decode cX2_pay 27 = .ok (.invokevirtual 207, 3) := by decide +kernel
theorem dX2_pay_30 : decode cX2_pay 30 = .ok (.i2l, 1) := by decide +kernel
theorem dX2_pay_31 : decode cX2_pay 31 = .ok (.ladd, 1) := by decide +kernel
theorem dX2_pay_32 : decode cX2_pay 32 = .ok (.lstore_n 2, 1) := by decide +kernel
theorem dX2_pay_33 : decode cX2_pay 33 = .ok (.iinc 4 1, 3) := by decide +kernel
theorem dX2_pay_36 : decode cX2_pay 36 = .ok (.goto (-26), 3) := by decide +kernel
theorem dX2_pay_39 : decode cX2_pay 39 = .ok (.lload_n 2, 1) := by decide +kernel
theorem dX2_pay_40 : decode cX2_pay 40 = .ok (.lreturn, 1) := by decide +kernel
theorem dX2_blame_0 : decode cX2_blame 0 = .ok (.aload_n 0, 1) := by decide +kernel
theorem dX2_blame_1 : decode cX2_blame 1 = .ok (.iload_n 1, 1) := by decide +kernel
theorem dX2_blame_2 : decode cX2_blame 2 = .ok (.invokevirtual 67, 3) := by decide +kernel
theorem dX2_blame_5 : decode cX2_blame 5 = .ok (.lconst 0, 1) := by decide +kernel
theorem dX2_blame_6 : decode cX2_blame 6 = .ok (.lstore_n 2, 1) := by decide +kernel
theorem dX2_blame_7 : decode cX2_blame 7 = .ok (.iconst 0, 1) := by decide +kernel
theorem dX2_blame_8 : decode cX2_blame 8 = .ok (.istore 4, 2) := by decide +kernel
theorem dX2_blame_10 : decode cX2_blame 10 = .ok (.iload 4, 2) := by decide +kernel
theorem dX2_blame_12 : decode cX2_blame 12 = .ok (.aload_n 0, 1) := by decide +kernel
theorem dX2_blame_13 : decode cX2_blame 13 = .ok (.getfield 45, 3) := by decide +kernel
theorem dX2_blame_16 : decode cX2_blame 16 = .ok (.if_icmp .ge 23, 3) := by decide +kernel
theorem dX2_blame_19 : decode cX2_blame 19 = .ok (.lload_n 2, 1) := by decide +kernel
theorem dX2_blame_20 : decode cX2_blame 20 = .ok (.aload_n 0, 1) := by decide +kernel
theorem dX2_blame_21 : decode cX2_blame 21 = .ok (.getfield 41, 3) := by decide +kernel
theorem dX2_blame_24 : decode cX2_blame 24 = .ok (.iload_n 1, 1) := by decide +kernel
theorem dX2_blame_25 : decode cX2_blame 25 = .ok (.iload 4, 2) := by decide +kernel
theorem dX2_blame_27 : decode cX2_blame 27 = .ok (.invokevirtual 210, 3) := by decide +kernel
theorem dX2_blame_30 : decode cX2_blame 30 = .ok (.i2l, 1) := by decide +kernel
theorem dX2_blame_31 : decode cX2_blame 31 = .ok (.ladd, 1) := by decide +kernel
theorem dX2_blame_32 : decode cX2_blame 32 = .ok (.lstore_n 2, 1) := by decide +kernel
theorem dX2_blame_33 : decode cX2_blame 33 = .ok (.iinc 4 1, 3) := by decide +kernel
theorem dX2_blame_36 : decode cX2_blame 36 = .ok (.goto (-26), 3) := by decide +kernel
theorem dX2_blame_39 : decode cX2_blame 39 = .ok (.lload_n 2, 1) := by decide +kernel
theorem dX2_blame_40 : decode cX2_blame 40 = .ok (.lreturn, 1) := by decide +kernel
theorem dX2_balanceBySamples_0 : decode cX2_balanceBySamples 0 = .ok (.aload_n 0, 1) := by decide +kernel
theorem dX2_balanceBySamples_1 : decode cX2_balanceBySamples 1 = .ok (.iload_n 1, 1) := by decide +kernel
theorem dX2_balanceBySamples_2 : decode cX2_balanceBySamples 2 = .ok (.invokevirtual 67, 3) := by decide +kernel
theorem dX2_balanceBySamples_5 : decode cX2_balanceBySamples 5 = .ok (.aload_n 0, 1) := by decide +kernel
theorem dX2_balanceBySamples_6 : decode cX2_balanceBySamples 6 = .ok (.getfield 41, 3) := by decide +kernel
theorem dX2_balanceBySamples_9 : decode cX2_balanceBySamples 9 = .ok (.iload_n 1, 1) := by decide +kernel
theorem dX2_balanceBySamples_10 : decode cX2_balanceBySamples 10 = .ok (.invokevirtual 213, 3) := by decide +kernel
theorem dX2_balanceBySamples_13 : decode cX2_balanceBySamples 13 = .ok (.lreturn, 1) := by decide +kernel
theorem dX2_wayOf_0 : decode cX2_wayOf 0 = .ok (.aload_n 0, 1) := by decide +kernel
theorem dX2_wayOf_1 : decode cX2_wayOf 1 = .ok (.iload_n 1, 1) := by decide +kernel
theorem dX2_wayOf_2 : decode cX2_wayOf 2 = .ok (.invokevirtual 157, 3) := by decide +kernel
theorem dX2_wayOf_5 : decode cX2_wayOf 5 = .ok (.aload_n 0, 1) := by decide +kernel
theorem dX2_wayOf_6 : decode cX2_wayOf 6 = .ok (.getfield 41, 3) := by decide +kernel
theorem dX2_wayOf_9 : decode cX2_wayOf 9 = .ok (.getfield 174, 3) := by decide +kernel
theorem dX2_wayOf_12 : decode cX2_wayOf 12 = .ok (.iload_n 1, 1) := by decide +kernel
theorem dX2_wayOf_13 : decode cX2_wayOf 13 = .ok (.caload, 1) := by decide +kernel
theorem dX2_wayOf_14 : decode cX2_wayOf 14 = .ok (.ireturn, 1) := by decide +kernel
theorem dX2_spoiltShare_0 : decode cX2_spoiltShare 0 = .ok (.aload_n 0, 1) := by decide +kernel
theorem dX2_spoiltShare_1 : decode cX2_spoiltShare 1 = .ok (.getfield 41, 3) := by decide +kernel
theorem dX2_spoiltShare_4 : decode cX2_spoiltShare 4 = .ok (.invokevirtual 217, 3) := by decide +kernel
theorem dX2_spoiltShare_7 : decode cX2_spoiltShare 7 = .ok (.istore_n 1, 1) := by decide +kernel
theorem dX2_spoiltShare_8 : decode cX2_spoiltShare 8 = .ok (.iload_n 1, 1) := by decide +kernel
theorem dX2_spoiltShare_9 : decode cX2_spoiltShare 9 = .ok (.ifCond .gt 13, 3) := by decide +kernel
theorem dX2_spoiltShare_12 : decode cX2_spoiltShare 12 = .ok (.new 220, 3) := by decide +kernel
theorem dX2_spoiltShare_15 : decode cX2_spoiltShare 15 = .ok (.dup, 1) := by decide +kernel
theorem dX2_spoiltShare_16 : decode cX2_spoiltShare 16 = .ok (.ldc 222, 2) := by decide +kernel
theorem dX2_spoiltShare_18 : decode cX2_spoiltShare 18 = .ok (.invokespecial 224, 3) := by decide +kernel
theorem dX2_spoiltShare_21 : decode cX2_spoiltShare 21 = .ok (.athrow, 1) := by decide +kernel
theorem dX2_spoiltShare_22 : decode cX2_spoiltShare 22 = .ok (.iconst 0, 1) := by decide +kernel
theorem dX2_spoiltShare_23 : decode cX2_spoiltShare 23 = .ok (.istore_n 2, 1) := by decide +kernel
theorem dX2_spoiltShare_24 : decode cX2_spoiltShare 24 = .ok (.iconst 0, 1) := by decide +kernel
theorem dX2_spoiltShare_25 : decode cX2_spoiltShare 25 = .ok (.istore_n 3, 1) := by decide +kernel
theorem dX2_spoiltShare_26 : decode cX2_spoiltShare 26 = .ok (.iload_n 3, 1) := by decide +kernel
theorem dX2_spoiltShare_27 : decode cX2_spoiltShare 27 = .ok (.aload_n 0, 1) := by decide +kernel
theorem dX2_spoiltShare_28 : decode cX2_spoiltShare 28 = .ok (.getfield 45, 3) := by decide +kernel
theorem dX2_spoiltShare_31 : decode cX2_spoiltShare 31 = .ok (.if_icmp .ge 33, 3) := by decide +kernel
theorem dX2_spoiltShare_34 : decode cX2_spoiltShare 34 = .ok (.aload_n 0, 1) := by decide +kernel
theorem dX2_spoiltShare_35 : decode cX2_spoiltShare 35 = .ok (.getfield 41, 3) := by decide +kernel
theorem dX2_spoiltShare_38 : decode cX2_spoiltShare 38 = .ok (.iload_n 3, 1) := by decide +kernel
theorem dX2_spoiltShare_39 : decode cX2_spoiltShare 39 = .ok (.invokevirtual 186, 3) := by decide +kernel
theorem dX2_spoiltShare_42 : decode cX2_spoiltShare 42 = .ok (.ifCond .eq 16, 3) := by decide +kernel
theorem dX2_spoiltShare_45 : decode cX2_spoiltShare 45 = .ok (.iload_n 2, 1) := by decide +kernel
theorem dX2_spoiltShare_46 : decode cX2_spoiltShare 46 = .ok (.aload_n 0, 1) := by decide +kernel
theorem dX2_spoiltShare_47 : decode cX2_spoiltShare 47 = .ok (.getfield 41, 3) := by decide +kernel
theorem dX2_spoiltShare_50 : decode cX2_spoiltShare 50 = .ok (.bipush 98, 2) := by decide +kernel
theorem dX2_spoiltShare_52 : decode cX2_spoiltShare 52 = .ok (.iload_n 3, 1) := by decide +kernel
theorem dX2_spoiltShare_53 : decode cX2_spoiltShare 53 = .ok (.invokevirtual 142, 3) := by decide +kernel
theorem dX2_spoiltShare_56 : decode cX2_spoiltShare 56 = .ok (.iadd, 1) := by decide +kernel
theorem dX2_spoiltShare_57 : decode cX2_spoiltShare 57 = .ok (.istore_n 2, 1) := by decide +kernel
theorem dX2_spoiltShare_58 : decode cX2_spoiltShare 58 = .ok (.iinc 3 1, 3) := by decide +kernel
theorem dX2_spoiltShare_61 : decode cX2_spoiltShare 61 = .ok (.goto (-35), 3) := by decide +kernel
theorem dX2_spoiltShare_64 : decode cX2_spoiltShare 64 = .ok (.iload_n 2, 1) := by decide +kernel
theorem dX2_spoiltShare_65 : decode cX2_spoiltShare 65 = .ok (.i2f, 1) := by decide +kernel
theorem dX2_spoiltShare_66 : decode cX2_spoiltShare 66 = .ok (.iload_n 1, 1) := by decide +kernel
theorem dX2_spoiltShare_67 : decode cX2_spoiltShare 67 = .ok (.i2f, 1) := by decide +kernel
theorem dX2_spoiltShare_68 : decode cX2_spoiltShare 68 = .ok (.fdiv, 1) := by decide +kernel
theorem dX2_spoiltShare_69 : decode cX2_spoiltShare 69 = .ok (.freturn, 1) := by decide +kernel
theorem dX2_meanPay_0 : decode cX2_meanPay 0 = .ok (.lconst 0, 1) := by decide +kernel
theorem dX2_meanPay_1 : decode cX2_meanPay 1 = .ok (.lstore_n 1, 1) := by decide +kernel
theorem dX2_meanPay_2 : decode cX2_meanPay 2 = .ok (.lconst 0, 1) := by decide +kernel
theorem dX2_meanPay_3 : decode cX2_meanPay 3 = .ok (.lstore_n 3, 1) := by decide +kernel
theorem dX2_meanPay_4 : decode cX2_meanPay 4 = .ok (.iconst 0, 1) := by decide +kernel
theorem dX2_meanPay_5 : decode cX2_meanPay 5 = .ok (.istore 5, 2) := by decide +kernel
theorem dX2_meanPay_7 : decode cX2_meanPay 7 = .ok (.iload 5, 2) := by decide +kernel
theorem dX2_meanPay_9 : decode cX2_meanPay 9 = .ok (.aload_n 0, 1) := by decide +kernel
theorem dX2_meanPay_10 : decode cX2_meanPay 10 = .ok (.getfield 45, 3) := by decide +kernel
theorem dX2_meanPay_13 : decode cX2_meanPay 13 = .ok (.if_icmp .ge 49, 3) := by decide +kernel
theorem dX2_meanPay_16 : decode cX2_meanPay 16 = .ok (.aload_n 0, 1) := by decide +kernel
theorem dX2_meanPay_17 : decode cX2_meanPay 17 = .ok (.getfield 41, 3) := by decide +kernel
theorem dX2_meanPay_20 : decode cX2_meanPay 20 = .ok (.iload 5, 2) := by decide +kernel
theorem dX2_meanPay_22 : decode cX2_meanPay 22 = .ok (.invokevirtual 190, 3) := by decide +kernel
theorem dX2_meanPay_25 : decode cX2_meanPay 25 = .ok (.ifCond .eq 31, 3) := by decide +kernel
theorem dX2_meanPay_28 : decode cX2_meanPay 28 = .ok (.lload_n 1, 1) := by decide +kernel
theorem dX2_meanPay_29 : decode cX2_meanPay 29 = .ok (.aload_n 0, 1) := by decide +kernel
theorem dX2_meanPay_30 : decode cX2_meanPay 30 = .ok (.getfield 41, 3) := by decide +kernel
theorem dX2_meanPay_33 : decode cX2_meanPay 33 = .ok (.iload 5, 2) := by decide +kernel
theorem dX2_meanPay_35 : decode cX2_meanPay 35 = .ok (.invokevirtual 201, 3) := by decide +kernel
theorem dX2_meanPay_38 : decode cX2_meanPay 38 = .ok (.i2l, 1) := by decide +kernel
theorem dX2_meanPay_39 : decode cX2_meanPay 39 = .ok (.ladd, 1) := by decide +kernel
theorem dX2_meanPay_40 : decode cX2_meanPay 40 = .ok (.lstore_n 1, 1) := by decide +kernel
theorem dX2_meanPay_41 : decode cX2_meanPay 41 = .ok (.lload_n 3, 1) := by decide +kernel
theorem dX2_meanPay_42 : decode cX2_meanPay 42 = .ok (.aload_n 0, 1) := by decide +kernel
theorem dX2_meanPay_43 : decode cX2_meanPay 43 = .ok (.getfield 41, 3) := by decide +kernel
theorem dX2_meanPay_46 : decode cX2_meanPay 46 = .ok (.bipush 98, 2) := by decide +kernel
theorem dX2_meanPay_48 : decode cX2_meanPay 48 = .ok (.iload 5, 2) := by decide +kernel
theorem dX2_meanPay_50 : decode cX2_meanPay 50 = .ok (.invokevirtual 142, 3) := by decide +kernel
theorem dX2_meanPay_53 : decode cX2_meanPay 53 = .ok (.i2l, 1) := by decide +kernel
theorem dX2_meanPay_54 : decode cX2_meanPay 54 = .ok (.ladd, 1) := by decide +kernel
theorem dX2_meanPay_55 : decode cX2_meanPay 55 = .ok (.lstore_n 3, 1) := by decide +kernel
theorem dX2_meanPay_56 : decode cX2_meanPay 56 = .ok (.iinc 5 1, 3) := by decide +kernel
theorem dX2_meanPay_59 : decode cX2_meanPay 59 = .ok (.goto (-52), 3) := by decide +kernel
theorem dX2_meanPay_62 : decode cX2_meanPay 62 = .ok (.lload_n 3, 1) := by decide +kernel
theorem dX2_meanPay_63 : decode cX2_meanPay 63 = .ok (.lconst 0, 1) := by decide +kernel
theorem dX2_meanPay_64 : decode cX2_meanPay 64 = .ok (.lcmp, 1) := by decide +kernel
theorem dX2_meanPay_65 : decode cX2_meanPay 65 = .ok (.ifCond .gt 13, 3) := by decide +kernel
theorem dX2_meanPay_68 : decode cX2_meanPay 68 = .ok (.new 220, 3) := by decide +kernel
theorem dX2_meanPay_71 : decode cX2_meanPay 71 = .ok (.dup, 1) := by decide +kernel
theorem dX2_meanPay_72 : decode cX2_meanPay 72 = .ok (.ldc 225, 2) := by decide +kernel
theorem dX2_meanPay_74 : decode cX2_meanPay 74 = .ok (.invokespecial 224, 3) := by decide +kernel
theorem dX2_meanPay_77 : decode cX2_meanPay 77 = .ok (.athrow, 1) := by decide +kernel
theorem dX2_meanPay_78 : decode cX2_meanPay 78 = .ok (.lload_n 1, 1) := by decide +kernel
theorem dX2_meanPay_79 : decode cX2_meanPay 79 = .ok (.l2d, 1) := by decide +kernel
theorem dX2_meanPay_80 : decode cX2_meanPay 80 = .ok (.lload_n 3, 1) := by decide +kernel
theorem dX2_meanPay_81 : decode cX2_meanPay 81 = .ok (.l2d, 1) := by decide +kernel
theorem dX2_meanPay_82 : decode cX2_meanPay 82 = .ok (.ddiv, 1) := by decide +kernel
theorem dX2_meanPay_83 : decode cX2_meanPay 83 = .ok (.dreturn, 1) := by decide +kernel
theorem dX2_freeRoom_0 : decode cX2_freeRoom 0 = .ok (.aload_n 0, 1) := by decide +kernel
theorem dX2_freeRoom_1 : decode cX2_freeRoom 1 = .ok (.getfield 23, 3) := by decide +kernel
theorem dX2_freeRoom_4 : decode cX2_freeRoom 4 = .ok (.iload_n 1, 1) := by decide +kernel
theorem dX2_freeRoom_5 : decode cX2_freeRoom 5 = .ok (.iaload, 1) := by decide +kernel
theorem dX2_freeRoom_6 : decode cX2_freeRoom 6 = .ok (.aload_n 0, 1) := by decide +kernel
theorem dX2_freeRoom_7 : decode cX2_freeRoom 7 = .ok (.iload_n 1, 1) := by decide +kernel
theorem dX2_freeRoom_8 : decode cX2_freeRoom 8 = .ok (.invokevirtual 139, 3) := by decide +kernel
theorem dX2_freeRoom_11 : decode cX2_freeRoom 11 = .ok (.isub, 1) := by decide +kernel
theorem dX2_freeRoom_12 : decode cX2_freeRoom 12 = .ok (.ireturn, 1) := by decide +kernel
theorem dX2_requireFarm_0 : decode cX2_requireFarm 0 = .ok (.iload_n 1, 1) := by decide +kernel
theorem dX2_requireFarm_1 : decode cX2_requireFarm 1 = .ok (.ifCond .lt 14, 3) := by decide +kernel
theorem dX2_requireFarm_4 : decode cX2_requireFarm 4 = .ok (.iload_n 1, 1) := by decide +kernel
theorem dX2_requireFarm_5 : decode cX2_requireFarm 5 = .ok (.aload_n 0, 1) := by decide +kernel
theorem dX2_requireFarm_6 : decode cX2_requireFarm 6 = .ok (.getfield 16, 3) := by decide +kernel
theorem dX2_requireFarm_9 : decode cX2_requireFarm 9 = .ok (.getfield 55, 3) := by decide +kernel
theorem dX2_requireFarm_12 : decode cX2_requireFarm 12 = .ok (.if_icmp .lt 13, 3) := by decide +kernel
theorem dX2_requireFarm_15 : decode cX2_requireFarm 15 = .ok (.new 227, 3) := by decide +kernel
theorem dX2_requireFarm_18 : decode cX2_requireFarm 18 = .ok (.dup, 1) := by decide +kernel
theorem dX2_requireFarm_19 : decode cX2_requireFarm 19 = .ok (.ldc 229, 2) := by decide +kernel
theorem dX2_requireFarm_21 : decode cX2_requireFarm 21 = .ok (.invokespecial 231, 3) := by decide +kernel
theorem dX2_requireFarm_24 : decode cX2_requireFarm 24 = .ok (.athrow, 1) := by decide +kernel
theorem dX2_requireFarm_25 : decode cX2_requireFarm 25 = .ok (.return_, 1) := by decide +kernel
theorem dX2_requireVat_0 : decode cX2_requireVat 0 = .ok (.iload_n 1, 1) := by decide +kernel
theorem dX2_requireVat_1 : decode cX2_requireVat 1 = .ok (.ifCond .lt 11, 3) := by decide +kernel
theorem dX2_requireVat_4 : decode cX2_requireVat 4 = .ok (.iload_n 1, 1) := by decide +kernel
theorem dX2_requireVat_5 : decode cX2_requireVat 5 = .ok (.aload_n 0, 1) := by decide +kernel
theorem dX2_requireVat_6 : decode cX2_requireVat 6 = .ok (.getfield 20, 3) := by decide +kernel
theorem dX2_requireVat_9 : decode cX2_requireVat 9 = .ok (.if_icmp .lt 13, 3) := by decide +kernel
theorem dX2_requireVat_12 : decode cX2_requireVat 12 = .ok (.new 227, 3) := by decide +kernel
theorem dX2_requireVat_15 : decode cX2_requireVat 15 = .ok (.dup, 1) := by decide +kernel
theorem dX2_requireVat_16 : decode cX2_requireVat 16 = .ok (.ldc 232, 2) := by decide +kernel
theorem dX2_requireVat_18 : decode cX2_requireVat 18 = .ok (.invokespecial 231, 3) := by decide +kernel
theorem dX2_requireVat_21 : decode cX2_requireVat 21 = .ok (.athrow, 1) := by decide +kernel
theorem dX2_requireVat_22 : decode cX2_requireVat 22 = .ok (.return_, 1) := by decide +kernel
theorem dX2_requireSample_0 : decode cX2_requireSample 0 = .ok (.iload_n 1, 1) := by decide +kernel
theorem dX2_requireSample_1 : decode cX2_requireSample 1 = .ok (.ifCond .lt 14, 3) := by decide +kernel
theorem dX2_requireSample_4 : decode cX2_requireSample 4 = .ok (.iload_n 1, 1) := by decide +kernel
theorem dX2_requireSample_5 : decode cX2_requireSample 5 = .ok (.aload_n 0, 1) := by decide +kernel
theorem dX2_requireSample_6 : decode cX2_requireSample 6 = .ok (.getfield 41, 3) := by decide +kernel
theorem dX2_requireSample_9 : decode cX2_requireSample 9 = .ok (.getfield 105, 3) := by decide +kernel
theorem dX2_requireSample_12 : decode cX2_requireSample 12 = .ok (.if_icmp .lt 13, 3) := by decide +kernel
theorem dX2_requireSample_15 : decode cX2_requireSample 15 = .ok (.new 227, 3) := by decide +kernel
theorem dX2_requireSample_18 : decode cX2_requireSample 18 = .ok (.dup, 1) := by decide +kernel
theorem dX2_requireSample_19 : decode cX2_requireSample 19 = .ok (.ldc 234, 2) := by decide +kernel
theorem dX2_requireSample_21 : decode cX2_requireSample 21 = .ok (.invokespecial 231, 3) := by decide +kernel
theorem dX2_requireSample_24 : decode cX2_requireSample 24 = .ok (.athrow, 1) := by decide +kernel
theorem dX2_requireSample_25 : decode cX2_requireSample 25 = .ok (.return_, 1) := by decide +kernel
theorem dX2_requireBatch_0 : decode cX2_requireBatch 0 = .ok (.iload_n 1, 1) := by decide +kernel
theorem dX2_requireBatch_1 : decode cX2_requireBatch 1 = .ok (.ifCond .lt 11, 3) := by decide +kernel
theorem dX2_requireBatch_4 : decode cX2_requireBatch 4 = .ok (.iload_n 1, 1) := by decide +kernel
theorem dX2_requireBatch_5 : decode cX2_requireBatch 5 = .ok (.aload_n 0, 1) := by decide +kernel
theorem dX2_requireBatch_6 : decode cX2_requireBatch 6 = .ok (.getfield 45, 3) := by decide +kernel
theorem dX2_requireBatch_9 : decode cX2_requireBatch 9 = .ok (.if_icmp .lt 13, 3) := by decide +kernel
theorem dX2_requireBatch_12 : decode cX2_requireBatch 12 = .ok (.new 227, 3) := by decide +kernel
theorem dX2_requireBatch_15 : decode cX2_requireBatch 15 = .ok (.dup, 1) := by decide +kernel
theorem dX2_requireBatch_16 : decode cX2_requireBatch 16 = .ok (.ldc 236, 2) := by decide +kernel
theorem dX2_requireBatch_18 : decode cX2_requireBatch 18 = .ok (.invokespecial 231, 3) := by decide +kernel
theorem dX2_requireBatch_21 : decode cX2_requireBatch 21 = .ok (.athrow, 1) := by decide +kernel
theorem dX2_requireBatch_22 : decode cX2_requireBatch 22 = .ok (.return_, 1) := by decide +kernel
theorem dX2_requireGradedBatch_0 : decode cX2_requireGradedBatch 0 = .ok (.aload_n 0, 1) := by decide +kernel
theorem dX2_requireGradedBatch_1 : decode cX2_requireGradedBatch 1 = .ok (.iload_n 1, 1) := by decide +kernel
theorem dX2_requireGradedBatch_2 : decode cX2_requireGradedBatch 2 = .ok (.invokevirtual 183, 3) := by decide +kernel
theorem dX2_requireGradedBatch_5 : decode cX2_requireGradedBatch 5 = .ok (.aload_n 0, 1) := by decide +kernel
theorem dX2_requireGradedBatch_6 : decode cX2_requireGradedBatch 6 = .ok (.getfield 41, 3) := by decide +kernel
theorem dX2_requireGradedBatch_9 : decode cX2_requireGradedBatch 9 = .ok (.iload_n 1, 1) := by decide +kernel
theorem dX2_requireGradedBatch_10 : decode cX2_requireGradedBatch 10 = .ok (.invokevirtual 190, 3) := by decide +kernel
theorem dX2_requireGradedBatch_13 : decode cX2_requireGradedBatch 13 = .ok (.ifCond .ne 13, 3) := by decide +kernel
theorem dX2_requireGradedBatch_16 : decode cX2_requireGradedBatch 16 = .ok (.new 124, 3) := by decide +kernel
theorem dX2_requireGradedBatch_19 : decode cX2_requireGradedBatch 19 = .ok (.dup, 1) := by decide +kernel
theorem dX2_requireGradedBatch_20 : decode cX2_requireGradedBatch 20 = .ok (.ldc 238, 2) := by decide +kernel
theorem dX2_requireGradedBatch_22 : decode cX2_requireGradedBatch 22 = .ok (.invokespecial 128, 3) := by decide +kernel
theorem dX2_requireGradedBatch_25 : decode cX2_requireGradedBatch 25 = .ok (.athrow, 1) := by decide +kernel
theorem dX2_requireGradedBatch_26 : decode cX2_requireGradedBatch 26 = .ok (.return_, 1) := by decide +kernel
