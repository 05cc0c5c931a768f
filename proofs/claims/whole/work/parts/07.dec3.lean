theorem dL_addFarm_0 : decode cL_addFarm 0 = .ok (.aload_n 2, 1) := by decide +kernel
theorem dL_addFarm_1 : decode cL_addFarm 1 = .ok (.iconst 0, 1) := by decide +kernel
theorem dL_addFarm_2 : decode cL_addFarm 2 = .ok (.aload_n 0, 1) := by decide +kernel
theorem dL_addFarm_3 : decode cL_addFarm 3 = .ok (.iload_n 1, 1) := by decide +kernel
theorem dL_addFarm_4 : decode cL_addFarm 4 = .ok (.invokevirtual 7, 3) := by decide +kernel
theorem dL_addFarm_7 : decode cL_addFarm 7 = .ok (.i2l, 1) := by decide +kernel
theorem dL_addFarm_8 : decode cL_addFarm 8 = .ok (.lastore, 1) := by decide +kernel
theorem dL_addFarm_9 : decode cL_addFarm 9 = .ok (.goto 9, 3) := by decide +kernel
theorem dL_addFarm_12 : decode cL_addFarm 12 = .ok (.astore_n 3, 1) := by decide +kernel
theorem dL_addFarm_13 : decode cL_addFarm 13 = .ok (.iconst 1, 1) := by decide +kernel
theorem dL_addFarm_14 : decode cL_addFarm 14 = .ok (.ireturn, 1) := by decide +kernel
theorem dL_addFarm_15 : decode cL_addFarm 15 = .ok (.astore_n 3, 1) := by decide +kernel
theorem dL_addFarm_16 : decode cL_addFarm 16 = .ok (.iconst 2, 1) := by decide +kernel
theorem dL_addFarm_17 : decode cL_addFarm 17 = .ok (.ireturn, 1) := by decide +kernel
theorem dL_addFarm_18 : decode cL_addFarm 18 = .ok (.iconst 0, 1) := by decide +kernel
theorem dL_addFarm_19 : decode cL_addFarm 19 = .ok (.ireturn, 1) := by decide +kernel
theorem dL_addCow_0 : decode cL_addCow 0 = .ok (.aload_n 3, 1) := by decide +kernel
theorem dL_addCow_1 : decode cL_addCow 1 = .ok (.iconst 0, 1) := by decide +kernel
theorem dL_addCow_2 : decode cL_addCow 2 = .ok (.aload_n 0, 1) := by decide +kernel
theorem dL_addCow_3 : decode cL_addCow 3 = .ok (.iload_n 1, 1) := by decide +kernel
theorem dL_addCow_4 : decode cL_addCow 4 = .ok (.iload_n 2, 1) := by decide +kernel
theorem dL_addCow_5 : decode cL_addCow 5 = .ok (.invokevirtual 17, 3) := by decide +kernel
theorem dL_addCow_8 : decode cL_addCow 8 = .ok (.i2l, 1) := by decide +kernel
theorem dL_addCow_9 : decode cL_addCow 9 = .ok (.lastore, 1) := by decide +kernel
theorem dL_addCow_10 : decode cL_addCow 10 = .ok (.goto 15, 3) := by decide +kernel
theorem dL_addCow_13 : decode cL_addCow 13 = .ok (.astore 4, 2) := by decide +kernel
theorem dL_addCow_15 : decode cL_addCow 15 = .ok (.iconst 1, 1) := by decide +kernel
theorem dL_addCow_16 : decode cL_addCow 16 = .ok (.ireturn, 1) := by decide +kernel
theorem dL_addCow_17 : decode cL_addCow 17 = .ok (.astore 4, 2) := by decide +kernel
theorem dL_addCow_19 : decode cL_addCow 19 = .ok (.iconst 2, 1) := by decide +kernel
theorem dL_addCow_20 : decode cL_addCow 20 = .ok (.ireturn, 1) := by decide +kernel
theorem dL_addCow_21 : decode cL_addCow 21 = .ok (.astore 4, 2) := by decide +kernel
theorem dL_addCow_23 : decode cL_addCow 23 = .ok (.iconst 3, 1) := by decide +kernel
theorem dL_addCow_24 : decode cL_addCow 24 = .ok (.ireturn, 1) := by decide +kernel
theorem dL_addCow_25 : decode cL_addCow 25 = .ok (.iconst 0, 1) := by decide +kernel
theorem dL_addCow_26 : decode cL_addCow 26 = .ok (.ireturn, 1) := by decide +kernel
theorem dL_milkOf_0 : decode cL_milkOf 0 = .ok (.aload_n 3, 1) := by decide +kernel
theorem dL_milkOf_1 : decode cL_milkOf 1 = .ok (.iconst 0, 1) := by decide +kernel
theorem dL_milkOf_2 : decode cL_milkOf 2 = .ok (.aload_n 0, 1) := by decide +kernel
theorem dL_milkOf_3 : decode cL_milkOf 3 = .ok (.iload_n 1, 1) := by decide +kernel
theorem dL_milkOf_4 : decode cL_milkOf 4 = .ok (.iload_n 2, 1) := by decide +kernel
theorem dL_milkOf_5 : decode cL_milkOf 5 = .ok (.invokevirtual 23, 3) := by decide +kernel
theorem dL_milkOf_8 : decode cL_milkOf 8 = .ok (.i2l, 1) := by decide +kernel
theorem dL_milkOf_9 : decode cL_milkOf 9 = .ok (.lastore, 1) := by decide +kernel
theorem dL_milkOf_10 : decode cL_milkOf 10 = .ok (.goto 11, 3) := by decide +kernel
theorem dL_milkOf_13 : decode cL_milkOf 13 = .ok (.astore 4, 2) := by decide +kernel
theorem dL_milkOf_15 : decode cL_milkOf 15 = .ok (.iconst 1, 1) := by decide +kernel
theorem dL_milkOf_16 : decode cL_milkOf 16 = .ok (.ireturn, 1) := by decide +kernel
theorem dL_milkOf_17 : decode cL_milkOf 17 = .ok (.astore 4, 2) := by decide +kernel
theorem dL_milkOf_19 : decode cL_milkOf 19 = .ok (.iconst 2, 1) := by decide +kernel
theorem dL_milkOf_20 : decode cL_milkOf 20 = .ok (.ireturn, 1) := by decide +kernel
theorem dL_milkOf_21 : decode cL_milkOf 21 = .ok (.iconst 0, 1) := by decide +kernel
theorem dL_milkOf_22 : decode cL_milkOf 22 = .ok (.ireturn, 1) := by decide +kernel
theorem dL_inTank_0 : decode cL_inTank 0 = .ok (.aload_n 2, 1) := by decide +kernel
theorem dL_inTank_1 : decode cL_inTank 1 = .ok (.iconst 0, 1) := by decide +kernel
theorem dL_inTank_2 : decode cL_inTank 2 = .ok (.aload_n 0, 1) := by decide +kernel
theorem dL_inTank_3 : decode cL_inTank 3 = .ok (.iload_n 1, 1) := by decide +kernel
theorem dL_inTank_4 : decode cL_inTank 4 = .ok (.invokevirtual 26, 3) := by decide +kernel
theorem dL_inTank_7 : decode cL_inTank 7 = .ok (.i2l, 1) := by decide +kernel
theorem dL_inTank_8 : decode cL_inTank 8 = .ok (.lastore, 1) := by decide +kernel
theorem dL_inTank_9 : decode cL_inTank 9 = .ok (.goto 6, 3) := by decide +kernel
theorem dL_inTank_12 : decode cL_inTank 12 = .ok (.astore_n 3, 1) := by decide +kernel
theorem dL_inTank_13 : decode cL_inTank 13 = .ok (.iconst 1, 1) := by decide +kernel
theorem dL_inTank_14 : decode cL_inTank 14 = .ok (.ireturn, 1) := by decide +kernel
theorem dL_inTank_15 : decode cL_inTank 15 = .ok (.iconst 0, 1) := by decide +kernel
theorem dL_inTank_16 : decode cL_inTank 16 = .ok (.ireturn, 1) := by decide +kernel
theorem dL_pass_0 : decode cL_pass 0 = .ok (.aload_n 2, 1) := by decide +kernel
theorem dL_pass_1 : decode cL_pass 1 = .ok (.iconst 0, 1) := by decide +kernel
theorem dL_pass_2 : decode cL_pass 2 = .ok (.aload_n 0, 1) := by decide +kernel
theorem dL_pass_3 : decode cL_pass 3 = .ok (.iload_n 1, 1) := by decide +kernel
theorem dL_pass_4 : decode cL_pass 4 = .ok (.invokevirtual 29, 3) := by decide +kernel
theorem dL_pass_7 : decode cL_pass 7 = .ok (.i2l, 1) := by decide +kernel
theorem dL_pass_8 : decode cL_pass 8 = .ok (.lastore, 1) := by decide +kernel
theorem dL_pass_9 : decode cL_pass 9 = .ok (.goto 6, 3) := by decide +kernel
theorem dL_pass_12 : decode cL_pass 12 = .ok (.astore_n 3, 1) := by decide +kernel
theorem dL_pass_13 : decode cL_pass 13 = .ok (.iconst 1, 1) := by decide +kernel
theorem dL_pass_14 : decode cL_pass 14 = .ok (.ireturn, 1) := by decide +kernel
theorem dL_pass_15 : decode cL_pass 15 = .ok (.iconst 0, 1) := by decide +kernel
theorem dL_pass_16 : decode cL_pass 16 = .ok (.ireturn, 1) := by decide +kernel
theorem dL_addVat_0 : decode cL_addVat 0 = .ok (.aload_n 2, 1) := by decide +kernel
theorem dL_addVat_1 : decode cL_addVat 1 = .ok (.iconst 0, 1) := by decide +kernel
theorem dL_addVat_2 : decode cL_addVat 2 = .ok (.aload_n 0, 1) := by decide +kernel
theorem dL_addVat_3 : decode cL_addVat 3 = .ok (.iload_n 1, 1) := by decide +kernel
theorem dL_addVat_4 : decode cL_addVat 4 = .ok (.invokevirtual 32, 3) := by decide +kernel
theorem dL_addVat_7 : decode cL_addVat 7 = .ok (.i2l, 1) := by decide +kernel
theorem dL_addVat_8 : decode cL_addVat 8 = .ok (.lastore, 1) := by decide +kernel
theorem dL_addVat_9 : decode cL_addVat 9 = .ok (.goto 9, 3) := by decide +kernel
theorem dL_addVat_12 : decode cL_addVat 12 = .ok (.astore_n 3, 1) := by decide +kernel
theorem dL_addVat_13 : decode cL_addVat 13 = .ok (.iconst 1, 1) := by decide +kernel
theorem dL_addVat_14 : decode cL_addVat 14 = .ok (.ireturn, 1) := by decide +kernel
theorem dL_addVat_15 : decode cL_addVat 15 = .ok (.astore_n 3, 1) := by decide +kernel
theorem dL_addVat_16 : decode cL_addVat 16 = .ok (.iconst 2, 1) := by decide +kernel
theorem dL_addVat_17 : decode cL_addVat 17 = .ok (.ireturn, 1) := by decide +kernel
theorem dL_addVat_18 : decode cL_addVat 18 = .ok (.iconst 0, 1) := by decide +kernel
theorem dL_addVat_19 : decode cL_addVat 19 = .ok (.ireturn, 1) := by decide +kernel
theorem dL_beginRound_0 : decode cL_beginRound 0 = .ok (.aload_n 1, 1) := by decide +kernel
theorem dL_beginRound_1 : decode cL_beginRound 1 = .ok (.iconst 0, 1) := by decide +kernel
theorem dL_beginRound_2 : decode cL_beginRound 2 = .ok (.aload_n 0, 1) := by decide +kernel
theorem dL_beginRound_3 : decode cL_beginRound 3 = .ok (.invokevirtual 35, 3) := by decide +kernel
theorem dL_beginRound_6 : decode cL_beginRound 6 = .ok (.i2l, 1) := by decide +kernel
theorem dL_beginRound_7 : decode cL_beginRound 7 = .ok (.lastore, 1) := by decide +kernel
theorem dL_beginRound_8 : decode cL_beginRound 8 = .ok (.goto 6, 3) := by decide +kernel
theorem dL_beginRound_11 : decode cL_beginRound 11 = .ok (.astore_n 2, 1) := by decide +kernel
theorem dL_beginRound_12 : decode cL_beginRound 12 = .ok (.iconst 1, 1) := by decide +kernel
theorem dL_beginRound_13 : decode cL_beginRound 13 = .ok (.ireturn, 1) := by decide +kernel
theorem dL_beginRound_14 : decode cL_beginRound 14 = .ok (.iconst 0, 1) := by decide +kernel
theorem dL_beginRound_15 : decode cL_beginRound 15 = .ok (.ireturn, 1) := by decide +kernel
theorem dL_visit_0 : decode cL_visit 0 = .ok (.aload_n 2, 1) := by decide +kernel
theorem dL_visit_1 : decode cL_visit 1 = .ok (.iconst 0, 1) := by decide +kernel
theorem dL_visit_2 : decode cL_visit 2 = .ok (.aload_n 0, 1) := by decide +kernel
theorem dL_visit_3 : decode cL_visit 3 = .ok (.iload_n 1, 1) := by decide +kernel
theorem dL_visit_4 : decode cL_visit 4 = .ok (.invokevirtual 39, 3) := by decide +kernel
theorem dL_visit_7 : decode cL_visit 7 = .ok (.i2l, 1) := by decide +kernel
theorem dL_visit_8 : decode cL_visit 8 = .ok (.lastore, 1) := by decide +kernel
theorem dL_visit_9 : decode cL_visit 9 = .ok (.goto 9, 3) := by decide +kernel
theorem dL_visit_12 : decode cL_visit 12 = .ok (.astore_n 3, 1) := by decide +kernel
theorem dL_visit_13 : decode cL_visit 13 = .ok (.iconst 1, 1) := by decide +kernel
theorem dL_visit_14 : decode cL_visit 14 = .ok (.ireturn, 1) := by decide +kernel
theorem dL_visit_15 : decode cL_visit 15 = .ok (.astore_n 3, 1) := by decide +kernel
theorem dL_visit_16 : decode cL_visit 16 = .ok (.iconst 2, 1) := by decide +kernel
theorem dL_visit_17 : decode cL_visit 17 = .ok (.ireturn, 1) := by decide +kernel
theorem dL_visit_18 : decode cL_visit 18 = .ok (.iconst 0, 1) := by decide +kernel
theorem dL_visit_19 : decode cL_visit 19 = .ok (.ireturn, 1) := by decide +kernel
theorem dL_endRound_0 : decode cL_endRound 0 = .ok (.aload_n 2, 1) := by decide +kernel
theorem dL_endRound_1 : decode cL_endRound 1 = .ok (.iconst 0, 1) := by decide +kernel
theorem dL_endRound_2 : decode cL_endRound 2 = .ok (.aload_n 0, 1) := by decide +kernel
theorem dL_endRound_3 : decode cL_endRound 3 = .ok (.iload_n 1, 1) := by decide +kernel
theorem dL_endRound_4 : decode cL_endRound 4 = .ok (.invokevirtual 42, 3) := by decide +kernel
theorem dL_endRound_7 : decode cL_endRound 7 = .ok (.i2l, 1) := by decide +kernel
theorem dL_endRound_8 : decode cL_endRound 8 = .ok (.lastore, 1) := by decide +kernel
theorem dL_endRound_9 : decode cL_endRound 9 = .ok (.goto 12, 3) := by decide +kernel
theorem dL_endRound_12 : decode cL_endRound 12 = .ok (.astore_n 3, 1) := by decide +kernel
theorem dL_endRound_13 : decode cL_endRound 13 = .ok (.iconst 1, 1) := by decide +kernel
theorem dL_endRound_14 : decode cL_endRound 14 = .ok (.ireturn, 1) := by decide +kernel
theorem dL_endRound_15 : decode cL_endRound 15 = .ok (.astore_n 3, 1) := by decide +kernel
theorem dL_endRound_16 : decode cL_endRound 16 = .ok (.iconst 2, 1) := by decide +kernel
theorem dL_endRound_17 : decode cL_endRound 17 = .ok (.ireturn, 1) := by decide +kernel
theorem dL_endRound_18 : decode cL_endRound 18 = .ok (.astore_n 3, 1) := by decide +kernel
theorem dL_endRound_19 : decode cL_endRound 19 = .ok (.iconst 3, 1) := by decide +kernel
theorem dL_endRound_20 : decode cL_endRound 20 = .ok (.ireturn, 1) := by decide +kernel
theorem dL_endRound_21 : decode cL_endRound 21 = .ok (.iconst 0, 1) := by decide +kernel
theorem dL_endRound_22 : decode cL_endRound 22 = .ok (.ireturn, 1) := by decide +kernel
theorem dL_inVat_0 : decode cL_inVat 0 = .ok (.aload_n 2, 1) := by decide +kernel
theorem dL_inVat_1 : decode cL_inVat 1 = .ok (.iconst 0, 1) := by decide +kernel
theorem dL_inVat_2 : decode cL_inVat 2 = .ok (.aload_n 0, 1) := by decide +kernel
theorem dL_inVat_3 : decode cL_inVat 3 = .ok (.iload_n 1, 1) := by decide +kernel
theorem dL_inVat_4 : decode cL_inVat 4 = .ok (.invokevirtual 47, 3) := by decide +kernel
theorem dL_inVat_7 : decode cL_inVat 7 = .ok (.i2l, 1) := by decide +kernel
theorem dL_inVat_8 : decode cL_inVat 8 = .ok (.lastore, 1) := by decide +kernel
theorem dL_inVat_9 : decode cL_inVat 9 = .ok (.goto 6, 3) := by decide +kernel
theorem dL_inVat_12 : decode cL_inVat 12 = .ok (.astore_n 3, 1) := by decide +kernel
theorem dL_inVat_13 : decode cL_inVat 13 = .ok (.iconst 1, 1) := by decide +kernel
theorem dL_inVat_14 : decode cL_inVat 14 = .ok (.ireturn, 1) := by decide +kernel
theorem dL_inVat_15 : decode cL_inVat 15 = .ok (.iconst 0, 1) := by decide +kernel
theorem dL_inVat_16 : decode cL_inVat 16 = .ok (.ireturn, 1) := by decide +kernel
theorem dL_bestVat_0 : decode cL_bestVat 0 = .ok (.aload_n 1, 1) := by decide +kernel
theorem dL_bestVat_1 : decode cL_bestVat 1 = .ok (.iconst 0, 1) := by decide +kernel
theorem dL_bestVat_2 : decode cL_bestVat 2 = .ok (.aload_n 0, 1) := by decide +kernel
theorem dL_bestVat_3 : decode cL_bestVat 3 = .ok (.invokevirtual 50, 3) := by decide +kernel
theorem dL_bestVat_6 : decode cL_bestVat 6 = .ok (.i2l, 1) := by decide +kernel
theorem dL_bestVat_7 : decode cL_bestVat 7 = .ok (.lastore, 1) := by decide +kernel
theorem dL_bestVat_8 : decode cL_bestVat 8 = .ok (.goto 6, 3) := by decide +kernel
theorem dL_bestVat_11 : decode cL_bestVat 11 = .ok (.astore_n 2, 1) := by decide +kernel
theorem dL_bestVat_12 : decode cL_bestVat 12 = .ok (.iconst 1, 1) := by decide +kernel
theorem dL_bestVat_13 : decode cL_bestVat 13 = .ok (.ireturn, 1) := by decide +kernel
theorem dL_bestVat_14 : decode cL_bestVat 14 = .ok (.iconst 0, 1) := by decide +kernel
theorem dL_bestVat_15 : decode cL_bestVat 15 = .ok (.ireturn, 1) := by decide +kernel
theorem dL_close_0 : decode cL_close 0 = .ok (.aload_n 2, 1) := by decide +kernel
theorem dL_close_1 : decode cL_close 1 = .ok (.iconst 0, 1) := by decide +kernel
theorem dL_close_2 : decode cL_close 2 = .ok (.aload_n 0, 1) := by decide +kernel
theorem dL_close_3 : decode cL_close 3 = .ok (.iload_n 1, 1) := by decide +kernel
theorem dL_close_4 : decode cL_close 4 = .ok (.invokevirtual 55, 3) := by decide +kernel
theorem dL_close_7 : decode cL_close 7 = .ok (.i2l, 1) := by decide +kernel
theorem dL_close_8 : decode cL_close 8 = .ok (.lastore, 1) := by decide +kernel
theorem dL_close_9 : decode cL_close 9 = .ok (.goto 12, 3) := by decide +kernel
theorem dL_close_12 : decode cL_close 12 = .ok (.astore_n 3, 1) := by decide +kernel
theorem dL_close_13 : decode cL_close 13 = .ok (.iconst 1, 1) := by decide +kernel
theorem dL_close_14 : decode cL_close 14 = .ok (.ireturn, 1) := by decide +kernel
theorem dL_close_15 : decode cL_close 15 = .ok (.astore_n 3, 1) := by decide +kernel
theorem dL_close_16 : decode cL_close 16 = .ok (.iconst 2, 1) := by decide +kernel
theorem dL_close_17 : decode cL_close 17 = .ok (.ireturn, 1) := by decide +kernel
theorem dL_close_18 : decode cL_close 18 = .ok (.astore_n 3, 1) := by decide +kernel
theorem dL_close_19 : decode cL_close 19 = .ok (.iconst 3, 1) := by decide +kernel
theorem dL_close_20 : decode cL_close 20 = .ok (.ireturn, 1) := by decide +kernel
theorem dL_close_21 : decode cL_close 21 = .ok (.iconst 0, 1) := by decide +kernel
theorem dL_close_22 : decode cL_close 22 = .ok (.ireturn, 1) := by decide +kernel
theorem dL_farmOf_0 : decode cL_farmOf 0 = .ok (.aload_n 2, 1) := by decide +kernel
theorem dL_farmOf_1 : decode cL_farmOf 1 = .ok (.iconst 0, 1) := by decide +kernel
theorem dL_farmOf_2 : decode cL_farmOf 2 = .ok (.aload_n 0, 1) := by decide +kernel
theorem dL_farmOf_3 : decode cL_farmOf 3 = .ok (.iload_n 1, 1) := by decide +kernel
theorem dL_farmOf_4 : decode cL_farmOf 4 = .ok (.invokevirtual 58, 3) := by decide +kernel
theorem dL_farmOf_7 : decode cL_farmOf 7 = .ok (.i2l, 1) := by decide +kernel
theorem dL_farmOf_8 : decode cL_farmOf 8 = .ok (.lastore, 1) := by decide +kernel
theorem dL_farmOf_9 : decode cL_farmOf 9 = .ok (.goto 6, 3) := by decide +kernel
theorem dL_farmOf_12 : decode cL_farmOf 12 = .ok (.astore_n 3, 1) := by decide +kernel
theorem dL_farmOf_13 : decode cL_farmOf 13 = .ok (.iconst 1, 1) := by decide +kernel
theorem dL_farmOf_14 : decode cL_farmOf 14 = .ok (.ireturn, 1) := by decide +kernel
theorem dL_farmOf_15 : decode cL_farmOf 15 = .ok (.iconst 0, 1) := by decide +kernel
theorem dL_farmOf_16 : decode cL_farmOf 16 = .ok (.ireturn, 1) := by decide +kernel
theorem dL_litres_0 : decode cL_litres 0 = .ok (.aload_n 2, 1) := by decide +kernel
theorem dL_litres_1 : decode cL_litres 1 = .ok (.iconst 0, 1) := by decide +kernel
theorem dL_litres_2 : decode cL_litres 2 = .ok (.aload_n 0, 1) := by decide +kernel
theorem dL_litres_3 : decode cL_litres 3 = .ok (.iload_n 1, 1) := by decide +kernel
theorem dL_litres_4 : decode cL_litres 4 = .ok (.invokevirtual 61, 3) := by decide +kernel
theorem dL_litres_7 : decode cL_litres 7 = .ok (.i2l, 1) := by decide +kernel
theorem dL_litres_8 : decode cL_litres 8 = .ok (.lastore, 1) := by decide +kernel
theorem dL_litres_9 : decode cL_litres 9 = .ok (.goto 6, 3) := by decide +kernel
theorem dL_litres_12 : decode cL_litres 12 = .ok (.astore_n 3, 1) := by decide +kernel
theorem dL_litres_13 : decode cL_litres 13 = .ok (.iconst 1, 1) := by decide +kernel
theorem dL_litres_14 : decode cL_litres 14 = .ok (.ireturn, 1) := by decide +kernel
theorem dL_litres_15 : decode cL_litres 15 = .ok (.iconst 0, 1) := by decide +kernel
theorem dL_litres_16 : decode cL_litres 16 = .ok (.ireturn, 1) := by decide +kernel
theorem dL_grade_0 : decode cL_grade 0 = .ok (.aload_n 3, 1) := by decide +kernel
theorem dL_grade_1 : decode cL_grade 1 = .ok (.iconst 0, 1) := by decide +kernel
theorem dL_grade_2 : decode cL_grade 2 = .ok (.aload_n 0, 1) := by decide +kernel
theorem dL_grade_3 : decode cL_grade 3 = .ok (.iload_n 1, 1) := by decide +kernel
theorem dL_grade_4 : decode cL_grade 4 = .ok (.iload_n 2, 1) := by decide +kernel
theorem dL_grade_5 : decode cL_grade 5 = .ok (.invokevirtual 64, 3) := by decide +kernel
theorem dL_grade_8 : decode cL_grade 8 = .ok (.i2l, 1) := by decide +kernel
theorem dL_grade_9 : decode cL_grade 9 = .ok (.lastore, 1) := by decide +kernel
theorem dL_grade_10 : decode cL_grade 10 = .ok (.goto 15, 3) := by decide +kernel
theorem dL_grade_13 : decode cL_grade 13 = .ok (.astore 4, 2) := by decide +kernel
theorem dL_grade_15 : decode cL_grade 15 = .ok (.iconst 1, 1) := by decide +kernel
theorem dL_grade_16 : decode cL_grade 16 = .ok (.ireturn, 1) := by decide +kernel
theorem dL_grade_17 : decode cL_grade 17 = .ok (.astore 4, 2) := by decide +kernel
theorem dL_grade_19 : decode cL_grade 19 = .ok (.iconst 2, 1) := by decide +kernel
theorem dL_grade_20 : decode cL_grade 20 = .ok (.ireturn, 1) := by decide +kernel
theorem dL_grade_21 : decode cL_grade 21 = .ok (.astore 4, 2) := by decide +kernel
theorem dL_grade_23 : decode cL_grade 23 = .ok (.iconst 3, 1) := by decide +kernel
theorem dL_grade_24 : decode cL_grade 24 = .ok (.ireturn, 1) := by decide +kernel
theorem dL_grade_25 : decode cL_grade 25 = .ok (.iconst 0, 1) := by decide +kernel
theorem dL_grade_26 : decode cL_grade 26 = .ok (.ireturn, 1) := by decide +kernel
theorem dL_gradeOf_0 : decode cL_gradeOf 0 = .ok (.aload_n 2, 1) := by decide +kernel
theorem dL_gradeOf_1 : decode cL_gradeOf 1 = .ok (.iconst 0, 1) := by decide +kernel
theorem dL_gradeOf_2 : decode cL_gradeOf 2 = .ok (.aload_n 0, 1) := by decide +kernel
theorem dL_gradeOf_3 : decode cL_gradeOf 3 = .ok (.iload_n 1, 1) := by decide +kernel
theorem dL_gradeOf_4 : decode cL_gradeOf 4 = .ok (.invokevirtual 68, 3) := by decide +kernel
theorem dL_gradeOf_7 : decode cL_gradeOf 7 = .ok (.i2l, 1) := by decide +kernel
theorem dL_gradeOf_8 : decode cL_gradeOf 8 = .ok (.lastore, 1) := by decide +kernel
theorem dL_gradeOf_9 : decode cL_gradeOf 9 = .ok (.goto 6, 3) := by decide +kernel
theorem dL_gradeOf_12 : decode cL_gradeOf 12 = .ok (.astore_n 3, 1) := by decide +kernel
theorem dL_gradeOf_13 : decode cL_gradeOf 13 = .ok (.iconst 1, 1) := by decide +kernel
theorem dL_gradeOf_14 : decode cL_gradeOf 14 = .ok (.ireturn, 1) := by decide +kernel
theorem dL_gradeOf_15 : decode cL_gradeOf 15 = .ok (.iconst 0, 1) := by decide +kernel
theorem dL_gradeOf_16 : decode cL_gradeOf 16 = .ok (.ireturn, 1) := by decide +kernel
theorem dL_stateOf_0 : decode cL_stateOf 0 = .ok (.aload_n 2, 1) := by decide +kernel
theorem dL_stateOf_1 : decode cL_stateOf 1 = .ok (.iconst 0, 1) := by decide +kernel
theorem dL_stateOf_2 : decode cL_stateOf 2 = .ok (.aload_n 0, 1) := by decide +kernel
theorem dL_stateOf_3 : decode cL_stateOf 3 = .ok (.iload_n 1, 1) := by decide +kernel
theorem dL_stateOf_4 : decode cL_stateOf 4 = .ok (.invokevirtual 72, 3) := by decide +kernel
theorem dL_stateOf_7 : decode cL_stateOf 7 = .ok (.i2l, 1) := by decide +kernel
theorem dL_stateOf_8 : decode cL_stateOf 8 = .ok (.lastore, 1) := by decide +kernel
theorem dL_stateOf_9 : decode cL_stateOf 9 = .ok (.goto 6, 3) := by decide +kernel
theorem dL_stateOf_12 : decode cL_stateOf 12 = .ok (.astore_n 3, 1) := by decide +kernel
theorem dL_stateOf_13 : decode cL_stateOf 13 = .ok (.iconst 1, 1) := by decide +kernel
theorem dL_stateOf_14 : decode cL_stateOf 14 = .ok (.ireturn, 1) := by decide +kernel
theorem dL_stateOf_15 : decode cL_stateOf 15 = .ok (.iconst 0, 1) := by decide +kernel
theorem dL_stateOf_16 : decode cL_stateOf 16 = .ok (.ireturn, 1) := by decide +kernel
theorem dL_share_0 : decode cL_share 0 = .ok (.aload_n 3, 1) := by decide +kernel
theorem dL_share_1 : decode cL_share 1 = .ok (.iconst 0, 1) := by decide +kernel
theorem dL_share_2 : decode cL_share 2 = .ok (.aload_n 0, 1) := by decide +kernel
theorem dL_share_3 : decode cL_share 3 = .ok (.iload_n 1, 1) := by decide +kernel
theorem dL_share_4 : decode cL_share 4 = .ok (.iload_n 2, 1) := by decide +kernel
theorem dL_share_5 : decode cL_share 5 = .ok (.invokevirtual 75, 3) := by decide +kernel
theorem dL_share_8 : decode cL_share 8 = .ok (.i2l, 1) := by decide +kernel
theorem dL_share_9 : decode cL_share 9 = .ok (.lastore, 1) := by decide +kernel
theorem dL_share_10 : decode cL_share 10 = .ok (.goto 11, 3) := by decide +kernel
theorem dL_share_13 : decode cL_share 13 = .ok (.astore 4, 2) := by decide +kernel
theorem dL_share_15 : decode cL_share 15 = .ok (.iconst 1, 1) := by decide +kernel
theorem dL_share_16 : decode cL_share 16 = .ok (.ireturn, 1) := by decide +kernel
theorem dL_share_17 : decode cL_share 17 = .ok (.astore 4, 2) := by decide +kernel
theorem dL_share_19 : decode cL_share 19 = .ok (.iconst 2, 1) := by decide +kernel
theorem dL_share_20 : decode cL_share 20 = .ok (.ireturn, 1) := by decide +kernel
theorem dL_share_21 : decode cL_share 21 = .ok (.iconst 0, 1) := by decide +kernel
theorem dL_share_22 : decode cL_share 22 = .ok (.ireturn, 1) := by decide +kernel
theorem dL_worth_0 : decode cL_worth 0 = .ok (.aload_n 2, 1) := by decide +kernel
theorem dL_worth_1 : decode cL_worth 1 = .ok (.iconst 0, 1) := by decide +kernel
theorem dL_worth_2 : decode cL_worth 2 = .ok (.aload_n 0, 1) := by decide +kernel
theorem dL_worth_3 : decode cL_worth 3 = .ok (.iload_n 1, 1) := by decide +kernel
theorem dL_worth_4 : decode cL_worth 4 = .ok (.invokevirtual 78, 3) := by decide +kernel
theorem dL_worth_7 : decode cL_worth 7 = .ok (.i2l, 1) := by decide +kernel
theorem dL_worth_8 : decode cL_worth 8 = .ok (.lastore, 1) := by decide +kernel
theorem dL_worth_9 : decode cL_worth 9 = .ok (.goto 9, 3) := by decide +kernel
theorem dL_worth_12 : decode cL_worth 12 = .ok (.astore_n 3, 1) := by decide +kernel
theorem dL_worth_13 : decode cL_worth 13 = .ok (.iconst 1, 1) := by decide +kernel
theorem dL_worth_14 : decode cL_worth 14 = .ok (.ireturn, 1) := by decide +kernel
theorem dL_worth_15 : decode cL_worth 15 = .ok (.astore_n 3, 1) := by decide +kernel
theorem dL_worth_16 : decode cL_worth 16 = .ok (.iconst 2, 1) := by decide +kernel
theorem dL_worth_17 : decode cL_worth 17 = .ok (.ireturn, 1) := by decide +kernel
theorem dL_worth_18 : decode cL_worth 18 = .ok (.iconst 0, 1) := by decide +kernel
theorem dL_worth_19 : decode cL_worth 19 = .ok (.ireturn, 1) := by decide +kernel
theorem dL_loss_0 : decode cL_loss 0 = .ok (.aload_n 2, 1) := by decide +kernel
theorem dL_loss_1 : decode cL_loss 1 = .ok (.iconst 0, 1) := by decide +kernel
theorem dL_loss_2 : decode cL_loss 2 = .ok (.aload_n 0, 1) := by decide +kernel
theorem dL_loss_3 : decode cL_loss 3 = .ok (.iload_n 1, 1) := by decide +kernel
theorem dL_loss_4 : decode cL_loss 4 = .ok (.invokevirtual 81, 3) := by decide +kernel
theorem dL_loss_7 : decode cL_loss 7 = .ok (.i2l, 1) := by decide +kernel
theorem dL_loss_8 : decode cL_loss 8 = .ok (.lastore, 1) := by decide +kernel
theorem dL_loss_9 : decode cL_loss 9 = .ok (.goto 9, 3) := by decide +kernel
theorem dL_loss_12 : decode cL_loss 12 = .ok (.astore_n 3, 1) := by decide +kernel
theorem dL_loss_13 : decode cL_loss 13 = .ok (.iconst 1, 1) := by decide +kernel
theorem dL_loss_14 : decode cL_loss 14 = .ok (.ireturn, 1) := by decide +kernel
theorem dL_loss_15 : decode cL_loss 15 = .ok (.astore_n 3, 1) := by decide +kernel
theorem dL_loss_16 : decode cL_loss 16 = .ok (.iconst 2, 1) := by decide +kernel
theorem dL_loss_17 : decode cL_loss 17 = .ok (.ireturn, 1) := by decide +kernel
theorem dL_loss_18 : decode cL_loss 18 = .ok (.iconst 0, 1) := by decide +kernel
theorem dL_loss_19 : decode cL_loss 19 = .ok (.ireturn, 1) := by decide +kernel
theorem dL_pay_0 : decode cL_pay 0 = .ok (.aload_n 2, 1) := by decide +kernel
theorem dL_pay_1 : decode cL_pay 1 = .ok (.iconst 0, 1) := by decide +kernel
theorem dL_pay_2 : decode cL_pay 2 = .ok (.aload_n 0, 1) := by decide +kernel
theorem dL_pay_3 : decode cL_pay 3 = .ok (.iload_n 1, 1) := by decide +kernel
theorem dL_pay_4 : decode cL_pay 4 = .ok (.invokevirtual 84, 3) := by decide +kernel
theorem dL_pay_7 : decode cL_pay 7 = .ok (.lastore, 1) := by decide +kernel
theorem dL_pay_8 : decode cL_pay 8 = .ok (.goto 6, 3) := by decide +kernel
theorem dL_pay_11 : decode cL_pay 11 = .ok (.astore_n 3, 1) := by decide +kernel
theorem dL_pay_12 : decode cL_pay 12 = .ok (.iconst 1, 1) := by decide +kernel
theorem dL_pay_13 : decode cL_pay 13 = .ok (.ireturn, 1) := by decide +kernel
theorem dL_pay_14 : decode cL_pay 14 = .ok (.iconst 0, 1) := by decide +kernel
theorem dL_pay_15 : decode cL_pay 15 = .ok (.ireturn, 1) := by decide +kernel
theorem dL_blame_0 : decode cL_blame 0 = .ok (.aload_n 2, 1) := by decide +kernel
theorem dL_blame_1 : decode cL_blame 1 = .ok (.iconst 0, 1) := by decide +kernel
theorem dL_blame_2 : decode cL_blame 2 = .ok (.aload_n 0, 1) := by decide +kernel
theorem dL_blame_3 : decode cL_blame 3 = .ok (.iload_n 1, 1) := by decide +kernel
theorem dL_blame_4 : decode cL_blame 4 = .ok (.invokevirtual 88, 3) := by decide +kernel
theorem dL_blame_7 : decode cL_blame 7 = .ok (.lastore, 1) := by decide +kernel
theorem dL_blame_8 : decode cL_blame 8 = .ok (.goto 6, 3) := by decide +kernel
theorem dL_blame_11 : decode cL_blame 11 = .ok (.astore_n 3, 1) := by decide +kernel
theorem dL_blame_12 : decode cL_blame 12 = .ok (.iconst 1, 1) := by decide +kernel
theorem dL_blame_13 : decode cL_blame 13 = .ok (.ireturn, 1) := by decide +kernel
theorem dL_blame_14 : decode cL_blame 14 = .ok (.iconst 0, 1) := by decide +kernel
theorem dL_blame_15 : decode cL_blame 15 = .ok (.ireturn, 1) := by decide +kernel
theorem dL_balanceBySamples_0 : decode cL_balanceBySamples 0 = .ok (.aload_n 2, 1) := by decide +kernel
theorem dL_balanceBySamples_1 : decode cL_balanceBySamples 1 = .ok (.iconst 0, 1) := by decide +kernel
theorem dL_balanceBySamples_2 : decode cL_balanceBySamples 2 = .ok (.aload_n 0, 1) := by decide +kernel
theorem dL_balanceBySamples_3 : decode cL_balanceBySamples 3 = .ok (.iload_n 1, 1) := by decide +kernel
theorem dL_balanceBySamples_4 : decode cL_balanceBySamples 4 = .ok (.invokevirtual 91, 3) := by decide +kernel
theorem dL_balanceBySamples_7 : decode cL_balanceBySamples 7 = .ok (.lastore, 1) := by decide +kernel
theorem dL_balanceBySamples_8 : decode cL_balanceBySamples 8 = .ok (.goto 6, 3) := by decide +kernel
theorem dL_balanceBySamples_11 : decode cL_balanceBySamples 11 = .ok (.astore_n 3, 1) := by decide +kernel
theorem dL_balanceBySamples_12 : decode cL_balanceBySamples 12 = .ok (.iconst 1, 1) := by decide +kernel
theorem dL_balanceBySamples_13 : decode cL_balanceBySamples 13 = .ok (.ireturn, 1) := by decide +kernel
theorem dL_balanceBySamples_14 : decode cL_balanceBySamples 14 = .ok (.iconst 0, 1) := by decide +kernel
theorem dL_balanceBySamples_15 : decode cL_balanceBySamples 15 = .ok (.ireturn, 1) := by decide +kernel
theorem dL_wayOf_0 : decode cL_wayOf 0 = .ok (.aload_n 2, 1) := by decide +kernel
theorem dL_wayOf_1 : decode cL_wayOf 1 = .ok (.iconst 0, 1) := by decide +kernel
theorem dL_wayOf_2 : decode cL_wayOf 2 = .ok (.aload_n 0, 1) := by decide +kernel
theorem dL_wayOf_3 : decode cL_wayOf 3 = .ok (.iload_n 1, 1) := by decide +kernel
theorem dL_wayOf_4 : decode cL_wayOf 4 = .ok (.invokevirtual 94, 3) := by decide +kernel
theorem dL_wayOf_7 : decode cL_wayOf 7 = .ok (.i2l, 1) := by decide +kernel
theorem dL_wayOf_8 : decode cL_wayOf 8 = .ok (.lastore, 1) := by decide +kernel
theorem dL_wayOf_9 : decode cL_wayOf 9 = .ok (.goto 6, 3) := by decide +kernel
theorem dL_wayOf_12 : decode cL_wayOf 12 = .ok (.astore_n 3, 1) := by decide +kernel
theorem dL_wayOf_13 : decode cL_wayOf 13 = .ok (.iconst 1, 1) := by decide +kernel
theorem dL_wayOf_14 : decode cL_wayOf 14 = .ok (.ireturn, 1) := by decide +kernel
theorem dL_wayOf_15 : decode cL_wayOf 15 = .ok (.iconst 0, 1) := by decide +kernel
theorem dL_wayOf_16 : decode cL_wayOf 16 = .ok (.ireturn, 1) := by decide +kernel
theorem dL_spoiltShare_0 : decode cL_spoiltShare 0 = .ok (.aload_n 1, 1) := by decide +kernel
theorem dL_spoiltShare_1 : decode cL_spoiltShare 1 = .ok (.iconst 0, 1) := by decide +kernel
theorem dL_spoiltShare_2 : decode cL_spoiltShare 2 = .ok (.aload_n 0, 1) := by decide +kernel
theorem dL_spoiltShare_3 : decode cL_spoiltShare 3 = .ok (.invokevirtual 97, 3) := by decide +kernel
theorem dL_spoiltShare_6 : decode cL_spoiltShare 6 = .ok (.f2d, 1) := by decide +kernel
theorem dL_spoiltShare_7 : decode cL_spoiltShare 7 = .ok (.dastore, 1) := by decide +kernel
theorem dL_spoiltShare_8 : decode cL_spoiltShare 8 = .ok (.goto 6, 3) := by decide +kernel
theorem dL_spoiltShare_11 : decode cL_spoiltShare 11 = .ok (.astore_n 2, 1) := by decide +kernel
theorem dL_spoiltShare_12 : decode cL_spoiltShare 12 = .ok (.iconst 1, 1) := by decide +kernel
theorem dL_spoiltShare_13 : decode cL_spoiltShare 13 = .ok (.ireturn, 1) := by decide +kernel
theorem dL_spoiltShare_14 : decode cL_spoiltShare 14 = .ok (.iconst 0, 1) := by decide +kernel
theorem dL_spoiltShare_15 : decode cL_spoiltShare 15 = .ok (.ireturn, 1) := by decide +kernel
theorem dL_meanPay_0 : decode cL_meanPay 0 = .ok (.aload_n 1, 1) := by decide +kernel
theorem dL_meanPay_1 : decode cL_meanPay 1 = .ok (.iconst 0, 1) := by decide +kernel
theorem dL_meanPay_2 : decode cL_meanPay 2 = .ok (.aload_n 0, 1) := by decide +kernel
theorem dL_meanPay_3 : decode cL_meanPay 3 = .ok (.invokevirtual 103, 3) := by decide +kernel
theorem dL_meanPay_6 : decode cL_meanPay 6 = .ok (.dastore, 1) := by decide +kernel
theorem dL_meanPay_7 : decode cL_meanPay 7 = .ok (.goto 6, 3) := by decide +kernel
theorem dL_meanPay_10 : decode cL_meanPay 10 = .ok (.astore_n 2, 1) := by decide +kernel
theorem dL_meanPay_11 : decode cL_meanPay 11 = .ok (.iconst 1, 1) := by decide +kernel
theorem dL_meanPay_12 : decode cL_meanPay 12 = .ok (.ireturn, 1) := by decide +kernel
theorem dL_meanPay_13 : decode cL_meanPay 13 = .ok (.iconst 0, 1) := by decide +kernel
theorem dL_meanPay_14 : decode cL_meanPay 14 = .ok (.ireturn, 1) := by decide +kernel
