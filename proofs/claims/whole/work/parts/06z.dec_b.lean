theorem dX1_valuesWithBest_50 : decode cX1_valuesWithBest 50 = .ok (.ishl, 1) := by decide +kernel
theorem dX1_valuesWithBest_51 : decode cX1_valuesWithBest 51 = .ok (.ior, 1) := by decide +kernel
theorem dX1_valuesWithBest_52 : decode cX1_valuesWithBest 52 = .ok (.istore_n 3, 1) := by decide +kernel
theorem dX1_valuesWithBest_53 : decode cX1_valuesWithBest 53 = .ok (.iinc 4 1, 3) := by decide +kernel
theorem dX1_valuesWithBest_56 : decode cX1_valuesWithBest 56 = .ok (.goto (-51), 3) := by decide +kernel
theorem dX1_valuesWithBest_59 : decode cX1_valuesWithBest 59 = .ok (.iload_n 3, 1) := by decide +kernel
theorem dX1_valuesWithBest_60 : decode cX1_valuesWithBest 60 = .ok (.ireturn, 1) := by decide +kernel
theorem dX1_answer_0 : decode cX1_answer 0 = .ok (.aload_n 0, 1) := by decide +kernel
theorem dX1_answer_1 : decode cX1_answer 1 = .ok (.iload_n 1, 1) := by decide +kernel
theorem dX1_answer_2 : decode cX1_answer 2 = .ok (.invokevirtual 77, 3) := by decide +kernel
theorem dX1_answer_5 : decode cX1_answer 5 = .ok (.ifCond .eq 19, 3) := by decide +kernel
theorem dX1_answer_8 : decode cX1_answer 8 = .ok (.aload_n 0, 1) := by decide +kernel
theorem dX1_answer_9 : decode cX1_answer 9 = .ok (.aload_n 0, 1) := by decide +kernel
theorem dX1_answer_10 : decode cX1_answer 10 = .ok (.getfield 25, 3) := by decide +kernel
theorem dX1_answer_13 : decode cX1_answer 13 = .ok (.iload_n 2, 1) := by decide +kernel
theorem dX1_answer_14 : decode cX1_answer 14 = .ok (.invokevirtual 80, 3) := by decide +kernel
theorem dX1_answer_17 : decode cX1_answer 17 = .ok (.iload_n 1, 1) := by decide +kernel
theorem dX1_answer_18 : decode cX1_answer 18 = .ok (.invokestatic 83, 3) := by decide +kernel
theorem dX1_answer_21 : decode cX1_answer 21 = .ok (.goto 4, 3) := by decide +kernel
theorem dX1_answer_24 : decode cX1_answer 24 = .ok (.iconst (-1), 1) := by decide +kernel
theorem dX1_answer_25 : decode cX1_answer 25 = .ok (.ireturn, 1) := by decide +kernel
theorem dX1_idle_0 : decode cX1_idle 0 = .ok (.aload_n 0, 1) := by decide +kernel
theorem dX1_idle_1 : decode cX1_idle 1 = .ok (.iload_n 1, 1) := by decide +kernel
theorem dX1_idle_2 : decode cX1_idle 2 = .ok (.invokevirtual 61, 3) := by decide +kernel
theorem dX1_idle_5 : decode cX1_idle 5 = .ok (.ifCond .eq 27, 3) := by decide +kernel
theorem dX1_idle_8 : decode cX1_idle 8 = .ok (.aload_n 0, 1) := by decide +kernel
theorem dX1_idle_9 : decode cX1_idle 9 = .ok (.aload_n 0, 1) := by decide +kernel
theorem dX1_idle_10 : decode cX1_idle 10 = .ok (.getfield 40, 3) := by decide +kernel
theorem dX1_idle_13 : decode cX1_idle 13 = .ok (.iload_n 1, 1) := by decide +kernel
theorem dX1_idle_14 : decode cX1_idle 14 = .ok (.iaload, 1) := by decide +kernel
theorem dX1_idle_15 : decode cX1_idle 15 = .ok (.aload_n 0, 1) := by decide +kernel
theorem dX1_idle_16 : decode cX1_idle 16 = .ok (.getfield 44, 3) := by decide +kernel
theorem dX1_idle_19 : decode cX1_idle 19 = .ok (.iload_n 1, 1) := by decide +kernel
theorem dX1_idle_20 : decode cX1_idle 20 = .ok (.iaload, 1) := by decide +kernel
theorem dX1_idle_21 : decode cX1_idle 21 = .ok (.iconst (-1), 1) := by decide +kernel
theorem dX1_idle_22 : decode cX1_idle 22 = .ok (.invokevirtual 86, 3) := by decide +kernel
theorem dX1_idle_25 : decode cX1_idle 25 = .ok (.ifCond .eq 7, 3) := by decide +kernel
theorem dX1_idle_28 : decode cX1_idle 28 = .ok (.iconst 1, 1) := by decide +kernel
theorem dX1_idle_29 : decode cX1_idle 29 = .ok (.goto 4, 3) := by decide +kernel
theorem dX1_idle_32 : decode cX1_idle 32 = .ok (.iconst 0, 1) := by decide +kernel
theorem dX1_idle_33 : decode cX1_idle 33 = .ok (.ireturn, 1) := by decide +kernel
theorem dX1_leavesWinner_0 : decode cX1_leavesWinner 0 = .ok (.aload_n 0, 1) := by decide +kernel
theorem dX1_leavesWinner_1 : decode cX1_leavesWinner 1 = .ok (.getfield 36, 3) := by decide +kernel
theorem dX1_leavesWinner_4 : decode cX1_leavesWinner 4 = .ok (.iconst 0, 1) := by decide +kernel
theorem dX1_leavesWinner_5 : decode cX1_leavesWinner 5 = .ok (.iconst 0, 1) := by decide +kernel
theorem dX1_leavesWinner_6 : decode cX1_leavesWinner 6 = .ok (.invokevirtual 71, 3) := by decide +kernel
theorem dX1_leavesWinner_9 : decode cX1_leavesWinner 9 = .ok (.istore 4, 2) := by decide +kernel
theorem dX1_leavesWinner_11 : decode cX1_leavesWinner 11 = .ok (.aload_n 0, 1) := by decide +kernel
theorem dX1_leavesWinner_12 : decode cX1_leavesWinner 12 = .ok (.getfield 36, 3) := by decide +kernel
theorem dX1_leavesWinner_15 : decode cX1_leavesWinner 15 = .ok (.iload_n 1, 1) := by decide +kernel
theorem dX1_leavesWinner_16 : decode cX1_leavesWinner 16 = .ok (.iload_n 2, 1) := by decide +kernel
theorem dX1_leavesWinner_17 : decode cX1_leavesWinner 17 = .ok (.iload_n 3, 1) := by decide +kernel
theorem dX1_leavesWinner_18 : decode cX1_leavesWinner 18 = .ok (.invokevirtual 57, 3) := by decide +kernel
theorem dX1_leavesWinner_21 : decode cX1_leavesWinner 21 = .ok (.aload_n 0, 1) := by decide +kernel
theorem dX1_leavesWinner_22 : decode cX1_leavesWinner 22 = .ok (.getfield 36, 3) := by decide +kernel
theorem dX1_leavesWinner_25 : decode cX1_leavesWinner 25 = .ok (.iconst 0, 1) := by decide +kernel
theorem dX1_leavesWinner_26 : decode cX1_leavesWinner 26 = .ok (.iconst 0, 1) := by decide +kernel
theorem dX1_leavesWinner_27 : decode cX1_leavesWinner 27 = .ok (.invokevirtual 71, 3) := by decide +kernel
theorem dX1_leavesWinner_30 : decode cX1_leavesWinner 30 = .ok (.istore 5, 2) := by decide +kernel
theorem dX1_leavesWinner_32 : decode cX1_leavesWinner 32 = .ok (.aload_n 0, 1) := by decide +kernel
theorem dX1_leavesWinner_33 : decode cX1_leavesWinner 33 = .ok (.getfield 36, 3) := by decide +kernel
theorem dX1_leavesWinner_36 : decode cX1_leavesWinner 36 = .ok (.iload_n 1, 1) := by decide +kernel
theorem dX1_leavesWinner_37 : decode cX1_leavesWinner 37 = .ok (.iload_n 2, 1) := by decide +kernel
theorem dX1_leavesWinner_38 : decode cX1_leavesWinner 38 = .ok (.iload_n 3, 1) := by decide +kernel
theorem dX1_leavesWinner_39 : decode cX1_leavesWinner 39 = .ok (.ineg, 1) := by decide +kernel
theorem dX1_leavesWinner_40 : decode cX1_leavesWinner 40 = .ok (.invokevirtual 57, 3) := by decide +kernel
theorem dX1_leavesWinner_43 : decode cX1_leavesWinner 43 = .ok (.iload 4, 2) := by decide +kernel
theorem dX1_leavesWinner_45 : decode cX1_leavesWinner 45 = .ok (.iload 5, 2) := by decide +kernel
theorem dX1_leavesWinner_47 : decode cX1_leavesWinner 47 = .ok (.if_icmp .ne 7, 3) := by decide +kernel
theorem dX1_leavesWinner_50 : decode cX1_leavesWinner 50 = .ok (.iconst 1, 1) := by decide +kernel
theorem dX1_leavesWinner_51 : decode cX1_leavesWinner 51 = .ok (.goto 4, 3) := by decide +kernel
theorem dX1_leavesWinner_54 : decode cX1_leavesWinner 54 = .ok (.iconst 0, 1) := by decide +kernel
theorem dX1_leavesWinner_55 : decode cX1_leavesWinner 55 = .ok (.ireturn, 1) := by decide +kernel
theorem dX1_harmless_0 : decode cX1_harmless 0 = .ok (.aload_n 0, 1) := by decide +kernel
theorem dX1_harmless_1 : decode cX1_harmless 1 = .ok (.iload_n 1, 1) := by decide +kernel
theorem dX1_harmless_2 : decode cX1_harmless 2 = .ok (.iload_n 2, 1) := by decide +kernel
theorem dX1_harmless_3 : decode cX1_harmless 3 = .ok (.invokevirtual 50, 3) := by decide +kernel
theorem dX1_harmless_6 : decode cX1_harmless 6 = .ok (.ifCond .eq 17, 3) := by decide +kernel
theorem dX1_harmless_9 : decode cX1_harmless 9 = .ok (.aload_n 0, 1) := by decide +kernel
theorem dX1_harmless_10 : decode cX1_harmless 10 = .ok (.iload_n 1, 1) := by decide +kernel
theorem dX1_harmless_11 : decode cX1_harmless 11 = .ok (.iload_n 2, 1) := by decide +kernel
theorem dX1_harmless_12 : decode cX1_harmless 12 = .ok (.iconst 1, 1) := by decide +kernel
theorem dX1_harmless_13 : decode cX1_harmless 13 = .ok (.invokevirtual 86, 3) := by decide +kernel
theorem dX1_harmless_16 : decode cX1_harmless 16 = .ok (.ifCond .eq 7, 3) := by decide +kernel
theorem dX1_harmless_19 : decode cX1_harmless 19 = .ok (.iconst 1, 1) := by decide +kernel
theorem dX1_harmless_20 : decode cX1_harmless 20 = .ok (.goto 4, 3) := by decide +kernel
theorem dX1_harmless_23 : decode cX1_harmless 23 = .ok (.iconst 0, 1) := by decide +kernel
theorem dX1_harmless_24 : decode cX1_harmless 24 = .ok (.ireturn, 1) := by decide +kernel
theorem dX1_models_0 : decode cX1_models 0 = .ok (.aload_n 0, 1) := by decide +kernel
theorem dX1_models_1 : decode cX1_models 1 = .ok (.getfield 36, 3) := by decide +kernel
theorem dX1_models_4 : decode cX1_models 4 = .ok (.invokevirtual 90, 3) := by decide +kernel
theorem dX1_models_7 : decode cX1_models 7 = .ok (.ireturn, 1) := by decide +kernel
theorem dX0_countModels_0 : decode cX0_countModels 0 = .ok (.iconst 0, 1) := by decide +kernel
theorem dX0_countModels_1 : decode cX0_countModels 1 = .ok (.istore_n 1, 1) := by decide +kernel
theorem dX0_countModels_2 : decode cX0_countModels 2 = .ok (.iconst 0, 1) := by decide +kernel
theorem dX0_countModels_3 : decode cX0_countModels 3 = .ok (.istore_n 2, 1) := by decide +kernel
theorem dX0_countModels_4 : decode cX0_countModels 4 = .ok (.iload_n 2, 1) := by decide +kernel
theorem dX0_countModels_5 : decode cX0_countModels 5 = .ok (.aload_n 0, 1) := by decide +kernel
theorem dX0_countModels_6 : decode cX0_countModels 6 = .ok (.getfield 16, 3) := by decide +kernel
theorem dX0_countModels_9 : decode cX0_countModels 9 = .ok (.arraylength, 1) := by decide +kernel
theorem dX0_countModels_10 : decode cX0_countModels 10 = .ok (.if_icmp .ge 21, 3) := by decide +kernel
theorem dX0_countModels_13 : decode cX0_countModels 13 = .ok (.aload_n 0, 1) := by decide +kernel
theorem dX0_countModels_14 : decode cX0_countModels 14 = .ok (.getfield 16, 3) := by decide +kernel
theorem dX0_countModels_17 : decode cX0_countModels 17 = .ok (.iload_n 2, 1) := by decide +kernel
theorem dX0_countModels_18 : decode cX0_countModels 18 = .ok (.iaload, 1) := by decide +kernel
theorem dX0_countModels_19 : decode cX0_countModels 19 = .ok (.ifCond .ne 6, 3) := by decide +kernel
theorem dX0_countModels_22 : decode cX0_countModels 22 = .ok (.iinc 1 1, 3) := by decide +kernel
theorem dX0_countModels_25 : decode cX0_countModels 25 = .ok (.iinc 2 1, 3) := by decide +kernel
theorem dX0_countModels_28 : decode cX0_countModels 28 = .ok (.goto (-24), 3) := by decide +kernel
theorem dX0_countModels_31 : decode cX0_countModels 31 = .ok (.iload_n 1, 1) := by decide +kernel
theorem dX0_countModels_32 : decode cX0_countModels 32 = .ok (.ireturn, 1) := by decide +kernel
theorem dX1_claim_0 : decode cX1_claim 0 = .ok (.aload_n 0, 1) := by decide +kernel
theorem dX1_claim_1 : decode cX1_claim 1 = .ok (.iload_n 1, 1) := by decide +kernel
theorem dX1_claim_2 : decode cX1_claim 2 = .ok (.invokevirtual 94, 3) := by decide +kernel
theorem dX1_claim_5 : decode cX1_claim 5 = .ok (.ifCond .ne 5, 3) := by decide +kernel
theorem dX1_claim_8 : decode cX1_claim 8 = .ok (.iconst 0, 1) := by decide +kernel
theorem dX1_claim_9 : decode cX1_claim 9 = .ok (.ireturn, 1) := by decide +kernel
theorem dX1_claim_10 : decode cX1_claim 10 = .ok (.aload_n 0, 1) := by decide +kernel
theorem dX1_claim_11 : decode cX1_claim 11 = .ok (.getfield 47, 3) := by decide +kernel
theorem dX1_claim_14 : decode cX1_claim 14 = .ok (.iload_n 1, 1) := by decide +kernel
theorem dX1_claim_15 : decode cX1_claim 15 = .ok (.iload_n 2, 1) := by decide +kernel
theorem dX1_claim_16 : decode cX1_claim 16 = .ok (.iastore, 1) := by decide +kernel
theorem dX1_claim_17 : decode cX1_claim 17 = .ok (.iconst 1, 1) := by decide +kernel
theorem dX1_claim_18 : decode cX1_claim 18 = .ok (.ireturn, 1) := by decide +kernel
theorem dX1_isEves_0 : decode cX1_isEves 0 = .ok (.aload_n 0, 1) := by decide +kernel
theorem dX1_isEves_1 : decode cX1_isEves 1 = .ok (.iload_n 1, 1) := by decide +kernel
theorem dX1_isEves_2 : decode cX1_isEves 2 = .ok (.invokevirtual 77, 3) := by decide +kernel
theorem dX1_isEves_5 : decode cX1_isEves 5 = .ok (.ifCond .eq 19, 3) := by decide +kernel
theorem dX1_isEves_8 : decode cX1_isEves 8 = .ok (.aload_n 0, 1) := by decide +kernel
theorem dX1_isEves_9 : decode cX1_isEves 9 = .ok (.getfield 28, 3) := by decide +kernel
theorem dX1_isEves_12 : decode cX1_isEves 12 = .ok (.iload_n 1, 1) := by decide +kernel
theorem dX1_isEves_13 : decode cX1_isEves 13 = .ok (.invokestatic 83, 3) := by decide +kernel
theorem dX1_isEves_16 : decode cX1_isEves 16 = .ok (.iconst 1, 1) := by decide +kernel
theorem dX1_isEves_17 : decode cX1_isEves 17 = .ok (.if_icmp .ne 7, 3) := by decide +kernel
theorem dX1_isEves_20 : decode cX1_isEves 20 = .ok (.iconst 1, 1) := by decide +kernel
theorem dX1_isEves_21 : decode cX1_isEves 21 = .ok (.goto 4, 3) := by decide +kernel
theorem dX1_isEves_24 : decode cX1_isEves 24 = .ok (.iconst 0, 1) := by decide +kernel
theorem dX1_isEves_25 : decode cX1_isEves 25 = .ok (.ireturn, 1) := by decide +kernel
theorem dX1_gap_0 : decode cX1_gap 0 = .ok (.aload_n 0, 1) := by decide +kernel
theorem dX1_gap_1 : decode cX1_gap 1 = .ok (.aload_n 0, 1) := by decide +kernel
theorem dX1_gap_2 : decode cX1_gap 2 = .ok (.getfield 18, 3) := by decide +kernel
theorem dX1_gap_5 : decode cX1_gap 5 = .ok (.invokevirtual 97, 3) := by decide +kernel
theorem dX1_gap_8 : decode cX1_gap 8 = .ok (.istore_n 1, 1) := by decide +kernel
theorem dX1_gap_9 : decode cX1_gap 9 = .ok (.iconst 0, 1) := by decide +kernel
theorem dX1_gap_10 : decode cX1_gap 10 = .ok (.istore_n 2, 1) := by decide +kernel
theorem dX1_gap_11 : decode cX1_gap 11 = .ok (.iload_n 2, 1) := by decide +kernel
theorem dX1_gap_12 : decode cX1_gap 12 = .ok (.iload_n 1, 1) := by decide +kernel
theorem dX1_gap_13 : decode cX1_gap 13 = .ok (.if_icmp .ge 30, 3) := by decide +kernel
theorem dX1_gap_16 : decode cX1_gap 16 = .ok (.aload_n 0, 1) := by decide +kernel
theorem dX1_gap_17 : decode cX1_gap 17 = .ok (.getfield 36, 3) := by decide +kernel
theorem dX1_gap_20 : decode cX1_gap 20 = .ok (.aload_n 0, 1) := by decide +kernel
theorem dX1_gap_21 : decode cX1_gap 21 = .ok (.getfield 18, 3) := by decide +kernel
theorem dX1_gap_24 : decode cX1_gap 24 = .ok (.aload_n 0, 1) := by decide +kernel
theorem dX1_gap_25 : decode cX1_gap 25 = .ok (.iload_n 2, 1) := by decide +kernel
theorem dX1_gap_26 : decode cX1_gap 26 = .ok (.invokevirtual 101, 3) := by decide +kernel
theorem dX1_gap_29 : decode cX1_gap 29 = .ok (.invokevirtual 71, 3) := by decide +kernel
theorem dX1_gap_32 : decode cX1_gap 32 = .ok (.ifCond .ne 5, 3) := by decide +kernel
theorem dX1_gap_35 : decode cX1_gap 35 = .ok (.iload_n 2, 1) := by decide +kernel
theorem dX1_gap_36 : decode cX1_gap 36 = .ok (.ireturn, 1) := by decide +kernel
theorem dX1_gap_37 : decode cX1_gap 37 = .ok (.iinc 2 1, 3) := by decide +kernel
theorem dX1_gap_40 : decode cX1_gap 40 = .ok (.goto (-29), 3) := by decide +kernel
theorem dX1_gap_43 : decode cX1_gap 43 = .ok (.iconst (-1), 1) := by decide +kernel
theorem dX1_gap_44 : decode cX1_gap 44 = .ok (.ireturn, 1) := by decide +kernel
theorem dX1_sumsBefore_0 : decode cX1_sumsBefore 0 = .ok (.iconst 1, 1) := by decide +kernel
theorem dX1_sumsBefore_1 : decode cX1_sumsBefore 1 = .ok (.aload_n 0, 1) := by decide +kernel
theorem dX1_sumsBefore_2 : decode cX1_sumsBefore 2 = .ok (.getfield 25, 3) := by decide +kernel
theorem dX1_sumsBefore_5 : decode cX1_sumsBefore 5 = .ok (.iconst 1, 1) := by decide +kernel
theorem dX1_sumsBefore_6 : decode cX1_sumsBefore 6 = .ok (.iload_n 1, 1) := by decide +kernel
theorem dX1_sumsBefore_7 : decode cX1_sumsBefore 7 = .ok (.ishl, 1) := by decide +kernel
theorem dX1_sumsBefore_8 : decode cX1_sumsBefore 8 = .ok (.iconst 1, 1) := by decide +kernel
theorem dX1_sumsBefore_9 : decode cX1_sumsBefore 9 = .ok (.isub, 1) := by decide +kernel
theorem dX1_sumsBefore_10 : decode cX1_sumsBefore 10 = .ok (.iand, 1) := by decide +kernel
theorem dX1_sumsBefore_11 : decode cX1_sumsBefore 11 = .ok (.invokestatic 116, 3) := by decide +kernel
theorem dX1_sumsBefore_14 : decode cX1_sumsBefore 14 = .ok (.ishl, 1) := by decide +kernel
theorem dX1_sumsBefore_15 : decode cX1_sumsBefore 15 = .ok (.ireturn, 1) := by decide +kernel
theorem dJ6_bitCount_0 : decode cJ6_bitCount 0 = .ok (.iload_n 0, 1) := by decide +kernel
theorem dJ6_bitCount_1 : decode cJ6_bitCount 1 = .ok (.iload_n 0, 1) := by decide +kernel
theorem dJ6_bitCount_2 : decode cJ6_bitCount 2 = .ok (.iconst 1, 1) := by decide +kernel
theorem dJ6_bitCount_3 : decode cJ6_bitCount 3 = .ok (.iushr, 1) := by decide +kernel
theorem dJ6_bitCount_4 : decode cJ6_bitCount 4 = .ok (.ldc_w 265, 3) := by decide +kernel
theorem dJ6_bitCount_7 : decode cJ6_bitCount 7 = .ok (.iand, 1) := by decide +kernel
theorem dJ6_bitCount_8 : decode cJ6_bitCount 8 = .ok (.isub, 1) := by decide +kernel
theorem dJ6_bitCount_9 : decode cJ6_bitCount 9 = .ok (.istore_n 0, 1) := by decide +kernel
theorem dJ6_bitCount_10 : decode cJ6_bitCount 10 = .ok (.iload_n 0, 1) := by decide +kernel
theorem dJ6_bitCount_11 : decode cJ6_bitCount 11 = .ok (.ldc_w 266, 3) := by decide +kernel
theorem dJ6_bitCount_14 : decode cJ6_bitCount 14 = .ok (.iand, 1) := by decide +kernel
theorem dJ6_bitCount_15 : decode cJ6_bitCount 15 = .ok (.iload_n 0, 1) := by decide +kernel
theorem dJ6_bitCount_16 : decode cJ6_bitCount 16 = .ok (.iconst 2, 1) := by decide +kernel
theorem dJ6_bitCount_17 : decode cJ6_bitCount 17 = .ok (.iushr, 1) := by decide +kernel
theorem dJ6_bitCount_18 : decode cJ6_bitCount 18 = .ok (.ldc_w 266, 3) := by decide +kernel
theorem dJ6_bitCount_21 : decode cJ6_bitCount 21 = .ok (.iand, 1) := by decide +kernel
theorem dJ6_bitCount_22 : decode cJ6_bitCount 22 = .ok (.iadd, 1) := by decide +kernel
theorem dJ6_bitCount_23 : decode cJ6_bitCount 23 = .ok (.istore_n 0, 1) := by decide +kernel
theorem dJ6_bitCount_24 : decode cJ6_bitCount 24 = .ok (.iload_n 0, 1) := by decide +kernel
theorem dJ6_bitCount_25 : decode cJ6_bitCount 25 = .ok (.iload_n 0, 1) := by decide +kernel
theorem dJ6_bitCount_26 : decode cJ6_bitCount 26 = .ok (.iconst 4, 1) := by decide +kernel
theorem dJ6_bitCount_27 : decode cJ6_bitCount 27 = .ok (.iushr, 1) := by decide +kernel
theorem dJ6_bitCount_28 : decode cJ6_bitCount 28 = .ok (.iadd, 1) := by decide +kernel
theorem dJ6_bitCount_29 : decode cJ6_bitCount 29 = .ok (.ldc_w 267, 3) := by decide +kernel
theorem dJ6_bitCount_32 : decode cJ6_bitCount 32 = .ok (.iand, 1) := by decide +kernel
theorem dJ6_bitCount_33 : decode cJ6_bitCount 33 = .ok (.istore_n 0, 1) := by decide +kernel
theorem dJ6_bitCount_34 : decode cJ6_bitCount 34 = .ok (.iload_n 0, 1) := by decide +kernel
theorem dJ6_bitCount_35 : decode cJ6_bitCount 35 = .ok (.iload_n 0, 1) := by decide +kernel
theorem dJ6_bitCount_36 : decode cJ6_bitCount 36 = .ok (.bipush 8, 2) := by decide +kernel
theorem dJ6_bitCount_38 : decode cJ6_bitCount 38 = .ok (.iushr, 1) := by decide +kernel
theorem dJ6_bitCount_39 : decode cJ6_bitCount 39 = .ok (.iadd, 1) := by decide +kernel
theorem dJ6_bitCount_40 : decode cJ6_bitCount 40 = .ok (.istore_n 0, 1) := by decide +kernel
theorem dJ6_bitCount_41 : decode cJ6_bitCount 41 = .ok (.iload_n 0, 1) := by decide +kernel
theorem dJ6_bitCount_42 : decode cJ6_bitCount 42 = .ok (.iload_n 0, 1) := by decide +kernel
theorem dJ6_bitCount_43 : decode cJ6_bitCount 43 = .ok (.bipush 16, 2) := by decide +kernel
theorem dJ6_bitCount_45 : decode cJ6_bitCount 45 = .ok (.iushr, 1) := by decide +kernel
theorem dJ6_bitCount_46 : decode cJ6_bitCount 46 = .ok (.iadd, 1) := by decide +kernel
theorem dJ6_bitCount_47 : decode cJ6_bitCount 47 = .ok (.istore_n 0, 1) := by decide +kernel
theorem dJ6_bitCount_48 : decode cJ6_bitCount 48 = .ok (.iload_n 0, 1) := by decide +kernel
theorem dJ6_bitCount_49 : decode cJ6_bitCount 49 = .ok (.bipush 63, 2) := by decide +kernel
theorem dJ6_bitCount_51 : decode cJ6_bitCount 51 = .ok (.iand, 1) := by decide +kernel
theorem dJ6_bitCount_52 : decode cJ6_bitCount 52 = .ok (.ireturn, 1) := by decide +kernel
theorem dX1_valuesWithClaims_0 : decode cX1_valuesWithClaims 0 = .ok (.aload_n 0, 1) := by decide +kernel
theorem dX1_valuesWithClaims_1 : decode cX1_valuesWithClaims 1 = .ok (.iload_n 1, 1) := by decide +kernel
theorem dX1_valuesWithClaims_2 : decode cX1_valuesWithClaims 2 = .ok (.invokevirtual 104, 3) := by decide +kernel
theorem dX1_valuesWithClaims_5 : decode cX1_valuesWithClaims 5 = .ok (.istore_n 2, 1) := by decide +kernel
theorem dX1_valuesWithClaims_6 : decode cX1_valuesWithClaims 6 = .ok (.iconst 0, 1) := by decide +kernel
theorem dX1_valuesWithClaims_7 : decode cX1_valuesWithClaims 7 = .ok (.istore_n 3, 1) := by decide +kernel
theorem dX1_valuesWithClaims_8 : decode cX1_valuesWithClaims 8 = .ok (.iload_n 3, 1) := by decide +kernel
theorem dX1_valuesWithClaims_9 : decode cX1_valuesWithClaims 9 = .ok (.aload_n 0, 1) := by decide +kernel
theorem dX1_valuesWithClaims_10 : decode cX1_valuesWithClaims 10 = .ok (.getfield 18, 3) := by decide +kernel
theorem dX1_valuesWithClaims_13 : decode cX1_valuesWithClaims 13 = .ok (.if_icmp .ge 37, 3) := by decide +kernel
theorem dX1_valuesWithClaims_16 : decode cX1_valuesWithClaims 16 = .ok (.aload_n 0, 1) := by decide +kernel
theorem dX1_valuesWithClaims_17 : decode cX1_valuesWithClaims 17 = .ok (.iload_n 3, 1) := by decide +kernel
theorem dX1_valuesWithClaims_18 : decode cX1_valuesWithClaims 18 = .ok (.invokevirtual 94, 3) := by decide +kernel
theorem dX1_valuesWithClaims_21 : decode cX1_valuesWithClaims 21 = .ok (.ifCond .eq 23, 3) := by decide +kernel
theorem dX1_valuesWithClaims_24 : decode cX1_valuesWithClaims 24 = .ok (.iload_n 2, 1) := by decide +kernel
theorem dX1_valuesWithClaims_25 : decode cX1_valuesWithClaims 25 = .ok (.aload_n 0, 1) := by decide +kernel
theorem dX1_valuesWithClaims_26 : decode cX1_valuesWithClaims 26 = .ok (.getfield 47, 3) := by decide +kernel
theorem dX1_valuesWithClaims_29 : decode cX1_valuesWithClaims 29 = .ok (.iload_n 3, 1) := by decide +kernel
theorem dX1_valuesWithClaims_30 : decode cX1_valuesWithClaims 30 = .ok (.iaload, 1) := by decide +kernel
theorem dX1_valuesWithClaims_31 : decode cX1_valuesWithClaims 31 = .ok (.aload_n 0, 1) := by decide +kernel
theorem dX1_valuesWithClaims_32 : decode cX1_valuesWithClaims 32 = .ok (.iload_n 3, 1) := by decide +kernel
theorem dX1_valuesWithClaims_33 : decode cX1_valuesWithClaims 33 = .ok (.iload_n 1, 1) := by decide +kernel
theorem dX1_valuesWithClaims_34 : decode cX1_valuesWithClaims 34 = .ok (.invokevirtual 113, 3) := by decide +kernel
theorem dX1_valuesWithClaims_37 : decode cX1_valuesWithClaims 37 = .ok (.invokestatic 83, 3) := by decide +kernel
theorem dX1_valuesWithClaims_40 : decode cX1_valuesWithClaims 40 = .ok (.iload_n 3, 1) := by decide +kernel
theorem dX1_valuesWithClaims_41 : decode cX1_valuesWithClaims 41 = .ok (.ishl, 1) := by decide +kernel
theorem dX1_valuesWithClaims_42 : decode cX1_valuesWithClaims 42 = .ok (.ior, 1) := by decide +kernel
theorem dX1_valuesWithClaims_43 : decode cX1_valuesWithClaims 43 = .ok (.istore_n 2, 1) := by decide +kernel
theorem dX1_valuesWithClaims_44 : decode cX1_valuesWithClaims 44 = .ok (.iinc 3 1, 3) := by decide +kernel
theorem dX1_valuesWithClaims_47 : decode cX1_valuesWithClaims 47 = .ok (.goto (-39), 3) := by decide +kernel
theorem dX1_valuesWithClaims_50 : decode cX1_valuesWithClaims 50 = .ok (.iload_n 2, 1) := by decide +kernel
theorem dX1_valuesWithClaims_51 : decode cX1_valuesWithClaims 51 = .ok (.ireturn, 1) := by decide +kernel
theorem dX1_adamValues_0 : decode cX1_adamValues 0 = .ok (.iconst 0, 1) := by decide +kernel
theorem dX1_adamValues_1 : decode cX1_adamValues 1 = .ok (.istore_n 2, 1) := by decide +kernel
theorem dX1_adamValues_2 : decode cX1_adamValues 2 = .ok (.iconst 0, 1) := by decide +kernel
theorem dX1_adamValues_3 : decode cX1_adamValues 3 = .ok (.istore_n 3, 1) := by decide +kernel
theorem dX1_adamValues_4 : decode cX1_adamValues 4 = .ok (.iconst 0, 1) := by decide +kernel
theorem dX1_adamValues_5 : decode cX1_adamValues 5 = .ok (.istore 4, 2) := by decide +kernel
theorem dX1_adamValues_7 : decode cX1_adamValues 7 = .ok (.iload 4, 2) := by decide +kernel
theorem dX1_adamValues_9 : decode cX1_adamValues 9 = .ok (.aload_n 0, 1) := by decide +kernel
theorem dX1_adamValues_10 : decode cX1_adamValues 10 = .ok (.getfield 18, 3) := by decide +kernel
theorem dX1_adamValues_13 : decode cX1_adamValues 13 = .ok (.if_icmp .ge 36, 3) := by decide +kernel
theorem dX1_adamValues_16 : decode cX1_adamValues 16 = .ok (.aload_n 0, 1) := by decide +kernel
theorem dX1_adamValues_17 : decode cX1_adamValues 17 = .ok (.getfield 25, 3) := by decide +kernel
theorem dX1_adamValues_20 : decode cX1_adamValues 20 = .ok (.iload 4, 2) := by decide +kernel
theorem dX1_adamValues_22 : decode cX1_adamValues 22 = .ok (.invokestatic 83, 3) := by decide +kernel
theorem dX1_adamValues_25 : decode cX1_adamValues 25 = .ok (.iconst 1, 1) := by decide +kernel
theorem dX1_adamValues_26 : decode cX1_adamValues 26 = .ok (.if_icmp .ne 17, 3) := by decide +kernel
theorem dX1_adamValues_29 : decode cX1_adamValues 29 = .ok (.iload_n 2, 1) := by decide +kernel
theorem dX1_adamValues_30 : decode cX1_adamValues 30 = .ok (.iload_n 1, 1) := by decide +kernel
theorem dX1_adamValues_31 : decode cX1_adamValues 31 = .ok (.iload_n 3, 1) := by decide +kernel
theorem dX1_adamValues_32 : decode cX1_adamValues 32 = .ok (.invokestatic 83, 3) := by decide +kernel
theorem dX1_adamValues_35 : decode cX1_adamValues 35 = .ok (.iload 4, 2) := by decide +kernel
theorem dX1_adamValues_37 : decode cX1_adamValues 37 = .ok (.ishl, 1) := by decide +kernel
theorem dX1_adamValues_38 : decode cX1_adamValues 38 = .ok (.ior, 1) := by decide +kernel
theorem dX1_adamValues_39 : decode cX1_adamValues 39 = .ok (.istore_n 2, 1) := by decide +kernel
theorem dX1_adamValues_40 : decode cX1_adamValues 40 = .ok (.iinc 3 1, 3) := by decide +kernel
theorem dX1_adamValues_43 : decode cX1_adamValues 43 = .ok (.iinc 4 1, 3) := by decide +kernel
theorem dX1_adamValues_46 : decode cX1_adamValues 46 = .ok (.goto (-39), 3) := by decide +kernel
theorem dX1_adamValues_49 : decode cX1_adamValues 49 = .ok (.iload_n 2, 1) := by decide +kernel
theorem dX1_adamValues_50 : decode cX1_adamValues 50 = .ok (.ireturn, 1) := by decide +kernel
theorem dX1_sumBefore_0 : decode cX1_sumBefore 0 = .ok (.iload_n 2, 1) := by decide +kernel
theorem dX1_sumBefore_1 : decode cX1_sumBefore 1 = .ok (.aload_n 0, 1) := by decide +kernel
theorem dX1_sumBefore_2 : decode cX1_sumBefore 2 = .ok (.iload_n 1, 1) := by decide +kernel
theorem dX1_sumBefore_3 : decode cX1_sumBefore 3 = .ok (.invokevirtual 97, 3) := by decide +kernel
theorem dX1_sumBefore_6 : decode cX1_sumBefore 6 = .ok (.iconst 1, 1) := by decide +kernel
theorem dX1_sumBefore_7 : decode cX1_sumBefore 7 = .ok (.isub, 1) := by decide +kernel
theorem dX1_sumBefore_8 : decode cX1_sumBefore 8 = .ok (.iand, 1) := by decide +kernel
theorem dX1_sumBefore_9 : decode cX1_sumBefore 9 = .ok (.ireturn, 1) := by decide +kernel
theorem dX1_learn_0 : decode cX1_learn 0 = .ok (.iconst 0, 1) := by decide +kernel
theorem dX1_learn_1 : decode cX1_learn 1 = .ok (.istore_n 1, 1) := by decide +kernel
theorem dX1_learn_2 : decode cX1_learn 2 = .ok (.iload_n 1, 1) := by decide +kernel
theorem dX1_learn_3 : decode cX1_learn 3 = .ok (.aload_n 0, 1) := by decide +kernel
theorem dX1_learn_4 : decode cX1_learn 4 = .ok (.getfield 18, 3) := by decide +kernel
theorem dX1_learn_7 : decode cX1_learn 7 = .ok (.if_icmp .ge 16, 3) := by decide +kernel
theorem dX1_learn_10 : decode cX1_learn 10 = .ok (.aload_n 0, 1) := by decide +kernel
theorem dX1_learn_11 : decode cX1_learn 11 = .ok (.getfield 47, 3) := by decide +kernel
theorem dX1_learn_14 : decode cX1_learn 14 = .ok (.iload_n 1, 1) := by decide +kernel
theorem dX1_learn_15 : decode cX1_learn 15 = .ok (.iconst 0, 1) := by decide +kernel
theorem dX1_learn_16 : decode cX1_learn 16 = .ok (.iastore, 1) := by decide +kernel
theorem dX1_learn_17 : decode cX1_learn 17 = .ok (.iinc 1 1, 3) := by decide +kernel
theorem dX1_learn_20 : decode cX1_learn 20 = .ok (.goto (-18), 3) := by decide +kernel
theorem dX1_learn_23 : decode cX1_learn 23 = .ok (.aload_n 0, 1) := by decide +kernel
theorem dX1_learn_24 : decode cX1_learn 24 = .ok (.aload_n 0, 1) := by decide +kernel
theorem dX1_learn_25 : decode cX1_learn 25 = .ok (.getfield 18, 3) := by decide +kernel
theorem dX1_learn_28 : decode cX1_learn 28 = .ok (.invokevirtual 97, 3) := by decide +kernel
theorem dX1_learn_31 : decode cX1_learn 31 = .ok (.istore_n 1, 1) := by decide +kernel
theorem dX1_learn_32 : decode cX1_learn 32 = .ok (.iconst 0, 1) := by decide +kernel
theorem dX1_learn_33 : decode cX1_learn 33 = .ok (.istore_n 2, 1) := by decide +kernel
theorem dX1_learn_34 : decode cX1_learn 34 = .ok (.iload_n 2, 1) := by decide +kernel
theorem dX1_learn_35 : decode cX1_learn 35 = .ok (.iload_n 1, 1) := by decide +kernel
theorem dX1_learn_36 : decode cX1_learn 36 = .ok (.if_icmp .ge 27, 3) := by decide +kernel
theorem dX1_learn_39 : decode cX1_learn 39 = .ok (.aload_n 0, 1) := by decide +kernel
theorem dX1_learn_40 : decode cX1_learn 40 = .ok (.iload_n 2, 1) := by decide +kernel
theorem dX1_learn_41 : decode cX1_learn 41 = .ok (.aload_n 0, 1) := by decide +kernel
theorem dX1_learn_42 : decode cX1_learn 42 = .ok (.aload_n 0, 1) := by decide +kernel
theorem dX1_learn_43 : decode cX1_learn 43 = .ok (.getfield 28, 3) := by decide +kernel
theorem dX1_learn_46 : decode cX1_learn 46 = .ok (.aload_n 0, 1) := by decide +kernel
theorem dX1_learn_47 : decode cX1_learn 47 = .ok (.iload_n 2, 1) := by decide +kernel
theorem dX1_learn_48 : decode cX1_learn 48 = .ok (.invokevirtual 104, 3) := by decide +kernel
theorem dX1_learn_51 : decode cX1_learn 51 = .ok (.invokevirtual 80, 3) := by decide +kernel
theorem dX1_learn_54 : decode cX1_learn 54 = .ok (.invokevirtual 107, 3) := by decide +kernel
theorem dX1_learn_57 : decode cX1_learn 57 = .ok (.iinc 2 1, 3) := by decide +kernel
theorem dX1_learn_60 : decode cX1_learn 60 = .ok (.goto (-26), 3) := by decide +kernel
theorem dX1_learn_63 : decode cX1_learn 63 = .ok (.aload_n 0, 1) := by decide +kernel
theorem dX1_learn_64 : decode cX1_learn 64 = .ok (.invokevirtual 110, 3) := by decide +kernel
theorem dX1_learn_67 : decode cX1_learn 67 = .ok (.ireturn, 1) := by decide +kernel
theorem dX1_claimValues_0 : decode cX1_claimValues 0 = .ok (.iconst 0, 1) := by decide +kernel
theorem dX1_claimValues_1 : decode cX1_claimValues 1 = .ok (.istore_n 3, 1) := by decide +kernel
theorem dX1_claimValues_2 : decode cX1_claimValues 2 = .ok (.iload_n 3, 1) := by decide +kernel
theorem dX1_claimValues_3 : decode cX1_claimValues 3 = .ok (.aload_n 0, 1) := by decide +kernel
theorem dX1_claimValues_4 : decode cX1_claimValues 4 = .ok (.getfield 18, 3) := by decide +kernel
theorem dX1_claimValues_7 : decode cX1_claimValues 7 = .ok (.if_icmp .ge 38, 3) := by decide +kernel
theorem dX1_claimValues_10 : decode cX1_claimValues 10 = .ok (.aload_n 0, 1) := by decide +kernel
theorem dX1_claimValues_11 : decode cX1_claimValues 11 = .ok (.iload_n 3, 1) := by decide +kernel
theorem dX1_claimValues_12 : decode cX1_claimValues 12 = .ok (.invokevirtual 94, 3) := by decide +kernel
theorem dX1_claimValues_15 : decode cX1_claimValues 15 = .ok (.ifCond .eq 24, 3) := by decide +kernel
theorem dX1_claimValues_18 : decode cX1_claimValues 18 = .ok (.aload_n 0, 1) := by decide +kernel
theorem dX1_claimValues_19 : decode cX1_claimValues 19 = .ok (.getfield 47, 3) := by decide +kernel
theorem dX1_claimValues_22 : decode cX1_claimValues 22 = .ok (.iload_n 3, 1) := by decide +kernel
theorem dX1_claimValues_23 : decode cX1_claimValues 23 = .ok (.dup2, 1) := by decide +kernel
theorem dX1_claimValues_24 : decode cX1_claimValues 24 = .ok (.iaload, 1) := by decide +kernel
theorem dX1_claimValues_25 : decode cX1_claimValues 25 = .ok (.iload_n 2, 1) := by decide +kernel
theorem dX1_claimValues_26 : decode cX1_claimValues 26 = .ok (.iload_n 3, 1) := by decide +kernel
theorem dX1_claimValues_27 : decode cX1_claimValues 27 = .ok (.invokestatic 83, 3) := by decide +kernel
theorem dX1_claimValues_30 : decode cX1_claimValues 30 = .ok (.aload_n 0, 1) := by decide +kernel
theorem dX1_claimValues_31 : decode cX1_claimValues 31 = .ok (.iload_n 3, 1) := by decide +kernel
theorem dX1_claimValues_32 : decode cX1_claimValues 32 = .ok (.iload_n 1, 1) := by decide +kernel
theorem dX1_claimValues_33 : decode cX1_claimValues 33 = .ok (.invokevirtual 113, 3) := by decide +kernel
theorem dX1_claimValues_36 : decode cX1_claimValues 36 = .ok (.ishl, 1) := by decide +kernel
theorem dX1_claimValues_37 : decode cX1_claimValues 37 = .ok (.ior, 1) := by decide +kernel
theorem dX1_claimValues_38 : decode cX1_claimValues 38 = .ok (.iastore, 1) := by decide +kernel
theorem dX1_claimValues_39 : decode cX1_claimValues 39 = .ok (.iinc 3 1, 3) := by decide +kernel
theorem dX1_claimValues_42 : decode cX1_claimValues 42 = .ok (.goto (-40), 3) := by decide +kernel
theorem dX1_claimValues_45 : decode cX1_claimValues 45 = .ok (.return_, 1) := by decide +kernel
theorem dX1_claimed_0 : decode cX1_claimed 0 = .ok (.aload_n 0, 1) := by decide +kernel
theorem dX1_claimed_1 : decode cX1_claimed 1 = .ok (.iload_n 1, 1) := by decide +kernel
theorem dX1_claimed_2 : decode cX1_claimed 2 = .ok (.invokevirtual 94, 3) := by decide +kernel
theorem dX1_claimed_5 : decode cX1_claimed 5 = .ok (.ifCond .eq 16, 3) := by decide +kernel
theorem dX1_claimed_8 : decode cX1_claimed 8 = .ok (.iload_n 2, 1) := by decide +kernel
theorem dX1_claimed_9 : decode cX1_claimed 9 = .ok (.ifCond .lt 12, 3) := by decide +kernel
theorem dX1_claimed_12 : decode cX1_claimed 12 = .ok (.iload_n 2, 1) := by decide +kernel
theorem dX1_claimed_13 : decode cX1_claimed 13 = .ok (.aload_n 0, 1) := by decide +kernel
theorem dX1_claimed_14 : decode cX1_claimed 14 = .ok (.iload_n 1, 1) := by decide +kernel
theorem dX1_claimed_15 : decode cX1_claimed 15 = .ok (.invokevirtual 97, 3) := by decide +kernel
theorem dX1_claimed_18 : decode cX1_claimed 18 = .ok (.if_icmp .lt 5, 3) := by decide +kernel
theorem dX1_claimed_21 : decode cX1_claimed 21 = .ok (.iconst 0, 1) := by decide +kernel
theorem dX1_claimed_22 : decode cX1_claimed 22 = .ok (.ireturn, 1) := by decide +kernel
theorem dX1_claimed_23 : decode cX1_claimed 23 = .ok (.aload_n 0, 1) := by decide +kernel
theorem dX1_claimed_24 : decode cX1_claimed 24 = .ok (.getfield 47, 3) := by decide +kernel
theorem dX1_claimed_27 : decode cX1_claimed 27 = .ok (.iload_n 1, 1) := by decide +kernel
theorem dX1_claimed_28 : decode cX1_claimed 28 = .ok (.iaload, 1) := by decide +kernel
theorem dX1_claimed_29 : decode cX1_claimed 29 = .ok (.iload_n 2, 1) := by decide +kernel
theorem dX1_claimed_30 : decode cX1_claimed 30 = .ok (.invokestatic 83, 3) := by decide +kernel
theorem dX1_claimed_33 : decode cX1_claimed 33 = .ok (.ireturn, 1) := by decide +kernel
theorem dL_cell_0 : decode cL_cell 0 = .ok (.iload_n 1, 1) := by decide +kernel
theorem dL_cell_1 : decode cL_cell 1 = .ok (.aload_n 0, 1) := by decide +kernel
theorem dL_cell_2 : decode cL_cell 2 = .ok (.arraylength, 1) := by decide +kernel
theorem dL_cell_3 : decode cL_cell 3 = .ok (.if_icmp .ge 9, 3) := by decide +kernel
theorem dL_cell_6 : decode cL_cell 6 = .ok (.aload_n 0, 1) := by decide +kernel
theorem dL_cell_7 : decode cL_cell 7 = .ok (.iload_n 1, 1) := by decide +kernel
theorem dL_cell_8 : decode cL_cell 8 = .ok (.iaload, 1) := by decide +kernel
theorem dL_cell_9 : decode cL_cell 9 = .ok (.goto 4, 3) := by decide +kernel
theorem dL_cell_12 : decode cL_cell 12 = .ok (.iconst 0, 1) := by decide +kernel
theorem dL_cell_13 : decode cL_cell 13 = .ok (.ireturn, 1) := by decide +kernel
theorem dX2_init_0 : decode cX2_init 0 = .ok (.aload_n 0, 1) := by decide +kernel
theorem dX2_init_1 : decode cX2_init 1 = .ok (.invokespecial 1, 3) := by decide +kernel
theorem dX2_init_4 : decode cX2_init 4 = .ok (.aload_n 0, 1) := by decide +kernel
theorem dX2_init_5 : decode cX2_init 5 = .ok (.bipush 24, 2) := by decide +kernel
theorem dX2_init_7 : decode cX2_init 7 = .ok (.newarray .int, 2) := by decide +kernel
theorem dX2_init_9 : decode cX2_init 9 = .ok (.putfield 7, 3) := by decide +kernel
theorem dX2_init_12 : decode cX2_init 12 = .ok (.aload_n 0, 1) := by decide +kernel
theorem dX2_init_13 : decode cX2_init 13 = .ok (.bipush 24, 2) := by decide +kernel
theorem dX2_init_15 : decode cX2_init 15 = .ok (.newarray .int, 2) := by decide +kernel
theorem dX2_init_17 : decode cX2_init 17 = .ok (.putfield 13, 3) := by decide +kernel
theorem dX2_init_20 : decode cX2_init 20 = .ok (.aload_n 0, 1) := by decide +kernel
theorem dX2_init_21 : decode cX2_init 21 = .ok (.iconst (-1), 1) := by decide +kernel
theorem dX2_init_22 : decode cX2_init 22 = .ok (.putfield 16, 3) := by decide +kernel
theorem dX2_init_25 : decode cX2_init 25 = .ok (.aload_n 0, 1) := by decide +kernel
theorem dX2_init_26 : decode cX2_init 26 = .ok (.sipush 2048, 3) := by decide +kernel
theorem dX2_init_29 : decode cX2_init 29 = .ok (.newarray .boolean, 2) := by decide +kernel
theorem dX2_init_31 : decode cX2_init 31 = .ok (.putfield 20, 3) := by decide +kernel
theorem dX2_init_34 : decode cX2_init 34 = .ok (.aload_n 0, 1) := by decide +kernel
theorem dX2_init_35 : decode cX2_init 35 = .ok (.iconst 1, 1) := by decide +kernel
theorem dX2_init_36 : decode cX2_init 36 = .ok (.putfield 24, 3) := by decide +kernel
theorem dX2_init_39 : decode cX2_init 39 = .ok (.aload_n 0, 1) := by decide +kernel
theorem dX2_init_40 : decode cX2_init 40 = .ok (.bipush 10, 2) := by decide +kernel
theorem dX2_init_42 : decode cX2_init 42 = .ok (.newarray .int, 2) := by decide +kernel
theorem dX2_init_44 : decode cX2_init 44 = .ok (.putfield 27, 3) := by decide +kernel
theorem dX2_init_47 : decode cX2_init 47 = .ok (.aload_n 0, 1) := by decide +kernel
theorem dX2_init_48 : decode cX2_init 48 = .ok (.iload_n 1, 1) := by decide +kernel
theorem dX2_init_49 : decode cX2_init 49 = .ok (.iconst 1, 1) := by decide +kernel
theorem dX2_init_50 : decode cX2_init 50 = .ok (.if_icmp .ge 7, 3) := by decide +kernel
theorem dX2_init_53 : decode cX2_init 53 = .ok (.iconst 1, 1) := by decide +kernel
theorem dX2_init_54 : decode cX2_init 54 = .ok (.goto 15, 3) := by decide +kernel
theorem dX2_init_57 : decode cX2_init 57 = .ok (.iload_n 1, 1) := by decide +kernel
theorem dX2_init_58 : decode cX2_init 58 = .ok (.bipush 10, 2) := by decide +kernel
theorem dX2_init_60 : decode cX2_init 60 = .ok (.if_icmp .le 8, 3) := by decide +kernel
theorem dX2_init_63 : decode cX2_init 63 = .ok (.bipush 10, 2) := by decide +kernel
theorem dX2_init_65 : decode cX2_init 65 = .ok (.goto 4, 3) := by decide +kernel
theorem dX2_init_68 : decode cX2_init 68 = .ok (.iload_n 1, 1) := by decide +kernel
theorem dX2_init_69 : decode cX2_init 69 = .ok (.putfield 30, 3) := by decide +kernel
theorem dX2_init_72 : decode cX2_init 72 = .ok (.iconst 0, 1) := by decide +kernel
theorem dX2_init_73 : decode cX2_init 73 = .ok (.istore_n 3, 1) := by decide +kernel
theorem dX2_init_74 : decode cX2_init 74 = .ok (.iconst 0, 1) := by decide +kernel
theorem dX2_init_75 : decode cX2_init 75 = .ok (.istore 4, 2) := by decide +kernel
theorem dX2_init_77 : decode cX2_init 77 = .ok (.iconst 0, 1) := by decide +kernel
theorem dX2_init_78 : decode cX2_init 78 = .ok (.istore 5, 2) := by decide +kernel
theorem dX2_init_80 : decode cX2_init 80 = .ok (.iload 5, 2) := by decide +kernel
theorem dX2_init_82 : decode cX2_init 82 = .ok (.aload_n 0, 1) := by decide +kernel
theorem dX2_init_83 : decode cX2_init 83 = .ok (.getfield 30, 3) := by decide +kernel
theorem dX2_init_86 : decode cX2_init 86 = .ok (.if_icmp .ge 35, 3) := by decide +kernel
theorem dX2_init_89 : decode cX2_init 89 = .ok (.iload_n 2, 1) := by decide +kernel
theorem dX2_init_90 : decode cX2_init 90 = .ok (.iload 5, 2) := by decide +kernel
theorem dX2_init_92 : decode cX2_init 92 = .ok (.ishr, 1) := by decide +kernel
theorem dX2_init_93 : decode cX2_init 93 = .ok (.iconst 1, 1) := by decide +kernel
theorem dX2_init_94 : decode cX2_init 94 = .ok (.iand, 1) := by decide +kernel
theorem dX2_init_95 : decode cX2_init 95 = .ok (.iconst 1, 1) := by decide +kernel
theorem dX2_init_96 : decode cX2_init 96 = .ok (.if_icmp .ne 19, 3) := by decide +kernel
theorem dX2_init_99 : decode cX2_init 99 = .ok (.iload 4, 2) := by decide +kernel
theorem dX2_init_101 : decode cX2_init 101 = .ok (.iconst 5, 1) := by decide +kernel
theorem dX2_init_102 : decode cX2_init 102 = .ok (.if_icmp .ge 13, 3) := by decide +kernel
theorem dX2_init_105 : decode cX2_init 105 = .ok (.iload_n 3, 1) := by decide +kernel
theorem dX2_init_106 : decode cX2_init 106 = .ok (.iconst 1, 1) := by decide +kernel
theorem dX2_init_107 : decode cX2_init 107 = .ok (.iload 5, 2) := by decide +kernel
theorem dX2_init_109 : decode cX2_init 109 = .ok (.ishl, 1) := by decide +kernel
theorem dX2_init_110 : decode cX2_init 110 = .ok (.iadd, 1) := by decide +kernel
theorem dX2_init_111 : decode cX2_init 111 = .ok (.istore_n 3, 1) := by decide +kernel
theorem dX2_init_112 : decode cX2_init 112 = .ok (.iinc 4 1, 3) := by decide +kernel
theorem dX2_init_115 : decode cX2_init 115 = .ok (.iinc 5 1, 3) := by decide +kernel
theorem dX2_init_118 : decode cX2_init 118 = .ok (.goto (-38), 3) := by decide +kernel
theorem dX2_init_121 : decode cX2_init 121 = .ok (.aload_n 0, 1) := by decide +kernel
theorem dX2_init_122 : decode cX2_init 122 = .ok (.iload_n 3, 1) := by decide +kernel
theorem dX2_init_123 : decode cX2_init 123 = .ok (.putfield 33, 3) := by decide +kernel
theorem dX2_init_126 : decode cX2_init 126 = .ok (.return_, 1) := by decide +kernel
theorem dX2_variables_0 : decode cX2_variables 0 = .ok (.aload_n 0, 1) := by decide +kernel
theorem dX2_variables_1 : decode cX2_variables 1 = .ok (.getfield 30, 3) := by decide +kernel
theorem dX2_variables_4 : decode cX2_variables 4 = .ok (.ireturn, 1) := by decide +kernel
theorem dX2_adams_0 : decode cX2_adams 0 = .ok (.aload_n 0, 1) := by decide +kernel
theorem dX2_adams_1 : decode cX2_adams 1 = .ok (.getfield 33, 3) := by decide +kernel
theorem dX2_adams_4 : decode cX2_adams 4 = .ok (.ireturn, 1) := by decide +kernel
theorem dX2_add_0 : decode cX2_add 0 = .ok (.aload_n 0, 1) := by decide +kernel
theorem dX2_add_1 : decode cX2_add 1 = .ok (.iload_n 1, 1) := by decide +kernel
theorem dX2_add_2 : decode cX2_add 2 = .ok (.invokevirtual 36, 3) := by decide +kernel
theorem dX2_add_5 : decode cX2_add 5 = .ok (.ifCond .ne 11, 3) := by decide +kernel
theorem dX2_add_8 : decode cX2_add 8 = .ok (.aload_n 0, 1) := by decide +kernel
theorem dX2_add_9 : decode cX2_add 9 = .ok (.iload_n 2, 1) := by decide +kernel
theorem dX2_add_10 : decode cX2_add 10 = .ok (.invokevirtual 36, 3) := by decide +kernel
theorem dX2_add_13 : decode cX2_add 13 = .ok (.ifCond .eq 5, 3) := by decide +kernel
theorem dX2_add_16 : decode cX2_add 16 = .ok (.iconst (-1), 1) := by decide +kernel
theorem dX2_add_17 : decode cX2_add 17 = .ok (.ireturn, 1) := by decide +kernel
theorem dX2_add_18 : decode cX2_add 18 = .ok (.aload_n 0, 1) := by decide +kernel
theorem dX2_add_19 : decode cX2_add 19 = .ok (.getfield 40, 3) := by decide +kernel
theorem dX2_add_22 : decode cX2_add 22 = .ok (.bipush 24, 2) := by decide +kernel
theorem dX2_add_24 : decode cX2_add 24 = .ok (.if_icmp .ne 6, 3) := by decide +kernel
theorem dX2_add_27 : decode cX2_add 27 = .ok (.bipush (-2), 2) := by decide +kernel
theorem dX2_add_29 : decode cX2_add 29 = .ok (.ireturn, 1) := by decide +kernel
theorem dX2_add_30 : decode cX2_add 30 = .ok (.aload_n 0, 1) := by decide +kernel
theorem dX2_add_31 : decode cX2_add 31 = .ok (.getfield 7, 3) := by decide +kernel
theorem dX2_add_34 : decode cX2_add 34 = .ok (.aload_n 0, 1) := by decide +kernel
theorem dX2_add_35 : decode cX2_add 35 = .ok (.getfield 40, 3) := by decide +kernel
theorem dX2_add_38 : decode cX2_add 38 = .ok (.iload_n 1, 1) := by decide +kernel
theorem dX2_add_39 : decode cX2_add 39 = .ok (.iastore, 1) := by decide +kernel
theorem dX2_add_40 : decode cX2_add 40 = .ok (.aload_n 0, 1) := by decide +kernel
theorem dX2_add_41 : decode cX2_add 41 = .ok (.getfield 13, 3) := by decide +kernel
theorem dX2_add_44 : decode cX2_add 44 = .ok (.aload_n 0, 1) := by decide +kernel
theorem dX2_add_45 : decode cX2_add 45 = .ok (.getfield 40, 3) := by decide +kernel
theorem dX2_add_48 : decode cX2_add 48 = .ok (.iload_n 2, 1) := by decide +kernel
theorem dX2_add_49 : decode cX2_add 49 = .ok (.iastore, 1) := by decide +kernel
theorem dX2_add_50 : decode cX2_add 50 = .ok (.aload_n 0, 1) := by decide +kernel
theorem dX2_add_51 : decode cX2_add 51 = .ok (.dup, 1) := by decide +kernel
theorem dX2_add_52 : decode cX2_add 52 = .ok (.getfield 40, 3) := by decide +kernel
theorem dX2_add_55 : decode cX2_add 55 = .ok (.iconst 1, 1) := by decide +kernel
theorem dX2_add_56 : decode cX2_add 56 = .ok (.iadd, 1) := by decide +kernel
theorem dX2_add_57 : decode cX2_add 57 = .ok (.putfield 40, 3) := by decide +kernel
theorem dX2_add_60 : decode cX2_add 60 = .ok (.aload_n 0, 1) := by decide +kernel
theorem dX2_add_61 : decode cX2_add 61 = .ok (.iconst 0, 1) := by decide +kernel
theorem dX2_add_62 : decode cX2_add 62 = .ok (.putfield 43, 3) := by decide +kernel
theorem dX2_add_65 : decode cX2_add 65 = .ok (.aload_n 0, 1) := by decide +kernel
theorem dX2_add_66 : decode cX2_add 66 = .ok (.getfield 40, 3) := by decide +kernel
theorem dX2_add_69 : decode cX2_add 69 = .ok (.iconst 1, 1) := by decide +kernel
theorem dX2_add_70 : decode cX2_add 70 = .ok (.isub, 1) := by decide +kernel
theorem dX2_add_71 : decode cX2_add 71 = .ok (.ireturn, 1) := by decide +kernel
theorem dX2_strange_0 : decode cX2_strange 0 = .ok (.iload_n 1, 1) := by decide +kernel
theorem dX2_strange_1 : decode cX2_strange 1 = .ok (.ifCond .lt 13, 3) := by decide +kernel
theorem dX2_strange_4 : decode cX2_strange 4 = .ok (.iload_n 1, 1) := by decide +kernel
theorem dX2_strange_5 : decode cX2_strange 5 = .ok (.iconst 1, 1) := by decide +kernel
theorem dX2_strange_6 : decode cX2_strange 6 = .ok (.aload_n 0, 1) := by decide +kernel
theorem dX2_strange_7 : decode cX2_strange 7 = .ok (.getfield 30, 3) := by decide +kernel
theorem dX2_strange_10 : decode cX2_strange 10 = .ok (.ishl, 1) := by decide +kernel
theorem dX2_strange_11 : decode cX2_strange 11 = .ok (.if_icmp .lt 7, 3) := by decide +kernel
theorem dX2_strange_14 : decode cX2_strange 14 = .ok (.iconst 1, 1) := by decide +kernel
theorem dX2_strange_15 : decode cX2_strange 15 = .ok (.goto 4, 3) := by decide +kernel
theorem dX2_strange_18 : decode cX2_strange 18 = .ok (.iconst 0, 1) := by decide +kernel
theorem dX2_strange_19 : decode cX2_strange 19 = .ok (.ireturn, 1) := by decide +kernel
theorem dX2_drop_0 : decode cX2_drop 0 = .ok (.aload_n 0, 1) := by decide +kernel
theorem dX2_drop_1 : decode cX2_drop 1 = .ok (.iload_n 1, 1) := by decide +kernel
theorem dX2_drop_2 : decode cX2_drop 2 = .ok (.invokevirtual 47, 3) := by decide +kernel
theorem dX2_drop_5 : decode cX2_drop 5 = .ok (.ifCond .eq 5, 3) := by decide +kernel
theorem dX2_drop_8 : decode cX2_drop 8 = .ok (.iconst 0, 1) := by decide +kernel
theorem dX2_drop_9 : decode cX2_drop 9 = .ok (.ireturn, 1) := by decide +kernel
theorem dX2_drop_10 : decode cX2_drop 10 = .ok (.aload_n 0, 1) := by decide +kernel
theorem dX2_drop_11 : decode cX2_drop 11 = .ok (.dup, 1) := by decide +kernel
theorem dX2_drop_12 : decode cX2_drop 12 = .ok (.getfield 40, 3) := by decide +kernel
theorem dX2_drop_15 : decode cX2_drop 15 = .ok (.iconst 1, 1) := by decide +kernel
theorem dX2_drop_16 : decode cX2_drop 16 = .ok (.isub, 1) := by decide +kernel
theorem dX2_drop_17 : decode cX2_drop 17 = .ok (.putfield 40, 3) := by decide +kernel
theorem dX2_drop_20 : decode cX2_drop 20 = .ok (.iload_n 1, 1) := by decide +kernel
theorem dX2_drop_21 : decode cX2_drop 21 = .ok (.istore_n 2, 1) := by decide +kernel
theorem dX2_drop_22 : decode cX2_drop 22 = .ok (.iload_n 2, 1) := by decide +kernel
theorem dX2_drop_23 : decode cX2_drop 23 = .ok (.aload_n 0, 1) := by decide +kernel
theorem dX2_drop_24 : decode cX2_drop 24 = .ok (.getfield 40, 3) := by decide +kernel
theorem dX2_drop_27 : decode cX2_drop 27 = .ok (.if_icmp .ge 37, 3) := by decide +kernel
theorem dX2_drop_30 : decode cX2_drop 30 = .ok (.aload_n 0, 1) := by decide +kernel
theorem dX2_drop_31 : decode cX2_drop 31 = .ok (.getfield 7, 3) := by decide +kernel
theorem dX2_drop_34 : decode cX2_drop 34 = .ok (.iload_n 2, 1) := by decide +kernel
theorem dX2_drop_35 : decode cX2_drop 35 = .ok (.aload_n 0, 1) := by decide +kernel
theorem dX2_drop_36 : decode cX2_drop 36 = .ok (.getfield 7, 3) := by decide +kernel
theorem dX2_drop_39 : decode cX2_drop 39 = .ok (.iload_n 2, 1) := by decide +kernel
theorem dX2_drop_40 : decode cX2_drop 40 = .ok (.iconst 1, 1) := by decide +kernel
theorem dX2_drop_41 : decode cX2_drop 41 = .ok (.iadd, 1) := by decide +kernel
theorem dX2_drop_42 : decode cX2_drop 42 = .ok (.iaload, 1) := by decide +kernel
theorem dX2_drop_43 : decode cX2_drop 43 = .ok (.iastore, 1) := by decide +kernel
theorem dX2_drop_44 : decode cX2_drop 44 = .ok (.aload_n 0, 1) := by decide +kernel
theorem dX2_drop_45 : decode cX2_drop 45 = .ok (.getfield 13, 3) := by decide +kernel
theorem dX2_drop_48 : decode cX2_drop 48 = .ok (.iload_n 2, 1) := by decide +kernel
theorem dX2_drop_49 : decode cX2_drop 49 = .ok (.aload_n 0, 1) := by decide +kernel
theorem dX2_drop_50 : decode cX2_drop 50 = .ok (.getfield 13, 3) := by decide +kernel
theorem dX2_drop_53 : decode cX2_drop 53 = .ok (.iload_n 2, 1) := by decide +kernel
theorem dX2_drop_54 : decode cX2_drop 54 = .ok (.iconst 1, 1) := by decide +kernel
theorem dX2_drop_55 : decode cX2_drop 55 = .ok (.iadd, 1) := by decide +kernel
theorem dX2_drop_56 : decode cX2_drop 56 = .ok (.iaload, 1) := by decide +kernel
theorem dX2_drop_57 : decode cX2_drop 57 = .ok (.iastore, 1) := by decide +kernel
