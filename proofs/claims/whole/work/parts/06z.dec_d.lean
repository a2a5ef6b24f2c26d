theorem dX2_claimed_24 : decode cX2_claimed 24 = .ok (.ireturn, 1) := by decide +kernel
theorem dX2_claimed_25 : decode cX2_claimed 25 = .ok (.aload_n 0, 1) := by decide +kernel
theorem dX2_claimed_26 : decode cX2_claimed 26 = .ok (.getfield 27, 3) := by decide +kernel
theorem dX2_claimed_29 : decode cX2_claimed 29 = .ok (.iload_n 1, 1) := by decide +kernel
theorem dX2_claimed_30 : decode cX2_claimed 30 = .ok (.iaload, 1) := by decide +kernel
theorem dX2_claimed_31 : decode cX2_claimed 31 = .ok (.iload_n 2, 1) := by decide +kernel
theorem dX2_claimed_32 : decode cX2_claimed 32 = .ok (.ishr, 1) := by decide +kernel
theorem dX2_claimed_33 : decode cX2_claimed 33 = .ok (.iconst 1, 1) := by decide +kernel
theorem dX2_claimed_34 : decode cX2_claimed 34 = .ok (.iand, 1) := by decide +kernel
theorem dX2_claimed_35 : decode cX2_claimed 35 = .ok (.ireturn, 1) := by decide +kernel
theorem dX2_before_0 : decode cX2_before 0 = .ok (.iconst 0, 1) := by decide +kernel
theorem dX2_before_1 : decode cX2_before 1 = .ok (.istore_n 2, 1) := by decide +kernel
theorem dX2_before_2 : decode cX2_before 2 = .ok (.iconst 0, 1) := by decide +kernel
theorem dX2_before_3 : decode cX2_before 3 = .ok (.istore_n 3, 1) := by decide +kernel
theorem dX2_before_4 : decode cX2_before 4 = .ok (.iload_n 3, 1) := by decide +kernel
theorem dX2_before_5 : decode cX2_before 5 = .ok (.iload_n 1, 1) := by decide +kernel
theorem dX2_before_6 : decode cX2_before 6 = .ok (.if_icmp .ge 25, 3) := by decide +kernel
theorem dX2_before_9 : decode cX2_before 9 = .ok (.aload_n 0, 1) := by decide +kernel
theorem dX2_before_10 : decode cX2_before 10 = .ok (.iload_n 3, 1) := by decide +kernel
theorem dX2_before_11 : decode cX2_before 11 = .ok (.invokevirtual 70, 3) := by decide +kernel
theorem dX2_before_14 : decode cX2_before 14 = .ok (.ifCond .eq 9, 3) := by decide +kernel
theorem dX2_before_17 : decode cX2_before 17 = .ok (.iload_n 2, 1) := by decide +kernel
theorem dX2_before_18 : decode cX2_before 18 = .ok (.iconst 1, 1) := by decide +kernel
theorem dX2_before_19 : decode cX2_before 19 = .ok (.iadd, 1) := by decide +kernel
theorem dX2_before_20 : decode cX2_before 20 = .ok (.goto 4, 3) := by decide +kernel
theorem dX2_before_23 : decode cX2_before 23 = .ok (.iload_n 2, 1) := by decide +kernel
theorem dX2_before_24 : decode cX2_before 24 = .ok (.istore_n 2, 1) := by decide +kernel
theorem dX2_before_25 : decode cX2_before 25 = .ok (.iinc 3 1, 3) := by decide +kernel
theorem dX2_before_28 : decode cX2_before 28 = .ok (.goto (-24), 3) := by decide +kernel
theorem dX2_before_31 : decode cX2_before 31 = .ok (.iload_n 2, 1) := by decide +kernel
theorem dX2_before_32 : decode cX2_before 32 = .ok (.ireturn, 1) := by decide +kernel
theorem dX2_gap_0 : decode cX2_gap 0 = .ok (.aload_n 0, 1) := by decide +kernel
theorem dX2_gap_1 : decode cX2_gap 1 = .ok (.invokevirtual 79, 3) := by decide +kernel
theorem dX2_gap_4 : decode cX2_gap 4 = .ok (.iconst 0, 1) := by decide +kernel
theorem dX2_gap_5 : decode cX2_gap 5 = .ok (.istore_n 1, 1) := by decide +kernel
theorem dX2_gap_6 : decode cX2_gap 6 = .ok (.iload_n 1, 1) := by decide +kernel
theorem dX2_gap_7 : decode cX2_gap 7 = .ok (.iconst 1, 1) := by decide +kernel
theorem dX2_gap_8 : decode cX2_gap 8 = .ok (.aload_n 0, 1) := by decide +kernel
theorem dX2_gap_9 : decode cX2_gap 9 = .ok (.aload_n 0, 1) := by decide +kernel
theorem dX2_gap_10 : decode cX2_gap 10 = .ok (.getfield 30, 3) := by decide +kernel
theorem dX2_gap_13 : decode cX2_gap 13 = .ok (.invokevirtual 93, 3) := by decide +kernel
theorem dX2_gap_16 : decode cX2_gap 16 = .ok (.ishl, 1) := by decide +kernel
theorem dX2_gap_17 : decode cX2_gap 17 = .ok (.if_icmp .ge 24, 3) := by decide +kernel
theorem dX2_gap_20 : decode cX2_gap 20 = .ok (.aload_n 0, 1) := by decide +kernel
theorem dX2_gap_21 : decode cX2_gap 21 = .ok (.getfield 20, 3) := by decide +kernel
theorem dX2_gap_24 : decode cX2_gap 24 = .ok (.aload_n 0, 1) := by decide +kernel
theorem dX2_gap_25 : decode cX2_gap 25 = .ok (.iload_n 1, 1) := by decide +kernel
theorem dX2_gap_26 : decode cX2_gap 26 = .ok (.invokevirtual 96, 3) := by decide +kernel
theorem dX2_gap_29 : decode cX2_gap 29 = .ok (.baload, 1) := by decide +kernel
theorem dX2_gap_30 : decode cX2_gap 30 = .ok (.ifCond .ne 5, 3) := by decide +kernel
theorem dX2_gap_33 : decode cX2_gap 33 = .ok (.iload_n 1, 1) := by decide +kernel
theorem dX2_gap_34 : decode cX2_gap 34 = .ok (.ireturn, 1) := by decide +kernel
theorem dX2_gap_35 : decode cX2_gap 35 = .ok (.iinc 1 1, 3) := by decide +kernel
theorem dX2_gap_38 : decode cX2_gap 38 = .ok (.goto (-32), 3) := by decide +kernel
theorem dX2_gap_41 : decode cX2_gap 41 = .ok (.iconst (-1), 1) := by decide +kernel
theorem dX2_gap_42 : decode cX2_gap 42 = .ok (.ireturn, 1) := by decide +kernel
theorem dX2_reached_0 : decode cX2_reached 0 = .ok (.iconst 1, 1) := by decide +kernel
theorem dX2_reached_1 : decode cX2_reached 1 = .ok (.istore_n 2, 1) := by decide +kernel
theorem dX2_reached_2 : decode cX2_reached 2 = .ok (.iconst 0, 1) := by decide +kernel
theorem dX2_reached_3 : decode cX2_reached 3 = .ok (.istore_n 3, 1) := by decide +kernel
theorem dX2_reached_4 : decode cX2_reached 4 = .ok (.iload_n 3, 1) := by decide +kernel
theorem dX2_reached_5 : decode cX2_reached 5 = .ok (.aload_n 0, 1) := by decide +kernel
theorem dX2_reached_6 : decode cX2_reached 6 = .ok (.getfield 30, 3) := by decide +kernel
theorem dX2_reached_9 : decode cX2_reached 9 = .ok (.if_icmp .ge 62, 3) := by decide +kernel
theorem dX2_reached_12 : decode cX2_reached 12 = .ok (.iload_n 1, 1) := by decide +kernel
theorem dX2_reached_13 : decode cX2_reached 13 = .ok (.iconst 1, 1) := by decide +kernel
theorem dX2_reached_14 : decode cX2_reached 14 = .ok (.aload_n 0, 1) := by decide +kernel
theorem dX2_reached_15 : decode cX2_reached 15 = .ok (.iload_n 3, 1) := by decide +kernel
theorem dX2_reached_16 : decode cX2_reached 16 = .ok (.invokevirtual 93, 3) := by decide +kernel
theorem dX2_reached_19 : decode cX2_reached 19 = .ok (.ishl, 1) := by decide +kernel
theorem dX2_reached_20 : decode cX2_reached 20 = .ok (.iconst 1, 1) := by decide +kernel
theorem dX2_reached_21 : decode cX2_reached 21 = .ok (.isub, 1) := by decide +kernel
theorem dX2_reached_22 : decode cX2_reached 22 = .ok (.iand, 1) := by decide +kernel
theorem dX2_reached_23 : decode cX2_reached 23 = .ok (.istore 4, 2) := by decide +kernel
theorem dX2_reached_25 : decode cX2_reached 25 = .ok (.aload_n 0, 1) := by decide +kernel
theorem dX2_reached_26 : decode cX2_reached 26 = .ok (.iload_n 3, 1) := by decide +kernel
theorem dX2_reached_27 : decode cX2_reached 27 = .ok (.invokevirtual 70, 3) := by decide +kernel
theorem dX2_reached_30 : decode cX2_reached 30 = .ok (.ifCond .eq 15, 3) := by decide +kernel
theorem dX2_reached_33 : decode cX2_reached 33 = .ok (.iload_n 1, 1) := by decide +kernel
theorem dX2_reached_34 : decode cX2_reached 34 = .ok (.aload_n 0, 1) := by decide +kernel
theorem dX2_reached_35 : decode cX2_reached 35 = .ok (.iload_n 3, 1) := by decide +kernel
theorem dX2_reached_36 : decode cX2_reached 36 = .ok (.invokevirtual 93, 3) := by decide +kernel
theorem dX2_reached_39 : decode cX2_reached 39 = .ok (.ishr, 1) := by decide +kernel
theorem dX2_reached_40 : decode cX2_reached 40 = .ok (.iconst 1, 1) := by decide +kernel
theorem dX2_reached_41 : decode cX2_reached 41 = .ok (.iand, 1) := by decide +kernel
theorem dX2_reached_42 : decode cX2_reached 42 = .ok (.goto 14, 3) := by decide +kernel
theorem dX2_reached_45 : decode cX2_reached 45 = .ok (.aload_n 0, 1) := by decide +kernel
theorem dX2_reached_46 : decode cX2_reached 46 = .ok (.getfield 27, 3) := by decide +kernel
theorem dX2_reached_49 : decode cX2_reached 49 = .ok (.iload_n 3, 1) := by decide +kernel
theorem dX2_reached_50 : decode cX2_reached 50 = .ok (.iaload, 1) := by decide +kernel
theorem dX2_reached_51 : decode cX2_reached 51 = .ok (.iload 4, 2) := by decide +kernel
theorem dX2_reached_53 : decode cX2_reached 53 = .ok (.ishr, 1) := by decide +kernel
theorem dX2_reached_54 : decode cX2_reached 54 = .ok (.iconst 1, 1) := by decide +kernel
theorem dX2_reached_55 : decode cX2_reached 55 = .ok (.iand, 1) := by decide +kernel
theorem dX2_reached_56 : decode cX2_reached 56 = .ok (.istore 5, 2) := by decide +kernel
theorem dX2_reached_58 : decode cX2_reached 58 = .ok (.iconst 2, 1) := by decide +kernel
theorem dX2_reached_59 : decode cX2_reached 59 = .ok (.iload_n 2, 1) := by decide +kernel
theorem dX2_reached_60 : decode cX2_reached 60 = .ok (.imul, 1) := by decide +kernel
theorem dX2_reached_61 : decode cX2_reached 61 = .ok (.iload 5, 2) := by decide +kernel
theorem dX2_reached_63 : decode cX2_reached 63 = .ok (.iadd, 1) := by decide +kernel
theorem dX2_reached_64 : decode cX2_reached 64 = .ok (.istore_n 2, 1) := by decide +kernel
theorem dX2_reached_65 : decode cX2_reached 65 = .ok (.iinc 3 1, 3) := by decide +kernel
theorem dX2_reached_68 : decode cX2_reached 68 = .ok (.goto (-64), 3) := by decide +kernel
theorem dX2_reached_71 : decode cX2_reached 71 = .ok (.iload_n 2, 1) := by decide +kernel
theorem dX2_reached_72 : decode cX2_reached 72 = .ok (.ireturn, 1) := by decide +kernel
theorem dX2_learn_0 : decode cX2_learn 0 = .ok (.aload_n 0, 1) := by decide +kernel
theorem dX2_learn_1 : decode cX2_learn 1 = .ok (.invokevirtual 79, 3) := by decide +kernel
theorem dX2_learn_4 : decode cX2_learn 4 = .ok (.iconst 0, 1) := by decide +kernel
theorem dX2_learn_5 : decode cX2_learn 5 = .ok (.istore_n 1, 1) := by decide +kernel
theorem dX2_learn_6 : decode cX2_learn 6 = .ok (.iload_n 1, 1) := by decide +kernel
theorem dX2_learn_7 : decode cX2_learn 7 = .ok (.aload_n 0, 1) := by decide +kernel
theorem dX2_learn_8 : decode cX2_learn 8 = .ok (.getfield 30, 3) := by decide +kernel
theorem dX2_learn_11 : decode cX2_learn 11 = .ok (.if_icmp .ge 16, 3) := by decide +kernel
theorem dX2_learn_14 : decode cX2_learn 14 = .ok (.aload_n 0, 1) := by decide +kernel
theorem dX2_learn_15 : decode cX2_learn 15 = .ok (.getfield 27, 3) := by decide +kernel
theorem dX2_learn_18 : decode cX2_learn 18 = .ok (.iload_n 1, 1) := by decide +kernel
theorem dX2_learn_19 : decode cX2_learn 19 = .ok (.iconst 0, 1) := by decide +kernel
theorem dX2_learn_20 : decode cX2_learn 20 = .ok (.iastore, 1) := by decide +kernel
theorem dX2_learn_21 : decode cX2_learn 21 = .ok (.iinc 1 1, 3) := by decide +kernel
theorem dX2_learn_24 : decode cX2_learn 24 = .ok (.goto (-18), 3) := by decide +kernel
theorem dX2_learn_27 : decode cX2_learn 27 = .ok (.iconst 0, 1) := by decide +kernel
theorem dX2_learn_28 : decode cX2_learn 28 = .ok (.istore_n 1, 1) := by decide +kernel
theorem dX2_learn_29 : decode cX2_learn 29 = .ok (.iload_n 1, 1) := by decide +kernel
theorem dX2_learn_30 : decode cX2_learn 30 = .ok (.aload_n 0, 1) := by decide +kernel
theorem dX2_learn_31 : decode cX2_learn 31 = .ok (.getfield 30, 3) := by decide +kernel
theorem dX2_learn_34 : decode cX2_learn 34 = .ok (.if_icmp .ge 84, 3) := by decide +kernel
theorem dX2_learn_37 : decode cX2_learn 37 = .ok (.iconst 0, 1) := by decide +kernel
theorem dX2_learn_38 : decode cX2_learn 38 = .ok (.istore_n 2, 1) := by decide +kernel
theorem dX2_learn_39 : decode cX2_learn 39 = .ok (.iload_n 2, 1) := by decide +kernel
theorem dX2_learn_40 : decode cX2_learn 40 = .ok (.iconst 1, 1) := by decide +kernel
theorem dX2_learn_41 : decode cX2_learn 41 = .ok (.aload_n 0, 1) := by decide +kernel
theorem dX2_learn_42 : decode cX2_learn 42 = .ok (.iload_n 1, 1) := by decide +kernel
theorem dX2_learn_43 : decode cX2_learn 43 = .ok (.invokevirtual 93, 3) := by decide +kernel
theorem dX2_learn_46 : decode cX2_learn 46 = .ok (.ishl, 1) := by decide +kernel
theorem dX2_learn_47 : decode cX2_learn 47 = .ok (.if_icmp .ge 65, 3) := by decide +kernel
theorem dX2_learn_50 : decode cX2_learn 50 = .ok (.aload_n 0, 1) := by decide +kernel
theorem dX2_learn_51 : decode cX2_learn 51 = .ok (.iload_n 1, 1) := by decide +kernel
theorem dX2_learn_52 : decode cX2_learn 52 = .ok (.invokevirtual 70, 3) := by decide +kernel
theorem dX2_learn_55 : decode cX2_learn 55 = .ok (.ifCond .ne 57, 3) := by decide +kernel
theorem dX2_learn_58 : decode cX2_learn 58 = .ok (.aload_n 0, 1) := by decide +kernel
theorem dX2_learn_59 : decode cX2_learn 59 = .ok (.iload_n 2, 1) := by decide +kernel
theorem dX2_learn_60 : decode cX2_learn 60 = .ok (.invokevirtual 96, 3) := by decide +kernel
theorem dX2_learn_63 : decode cX2_learn 63 = .ok (.aload_n 0, 1) := by decide +kernel
theorem dX2_learn_64 : decode cX2_learn 64 = .ok (.getfield 30, 3) := by decide +kernel
theorem dX2_learn_67 : decode cX2_learn 67 = .ok (.iload_n 1, 1) := by decide +kernel
theorem dX2_learn_68 : decode cX2_learn 68 = .ok (.isub, 1) := by decide +kernel
theorem dX2_learn_69 : decode cX2_learn 69 = .ok (.ishr, 1) := by decide +kernel
theorem dX2_learn_70 : decode cX2_learn 70 = .ok (.istore_n 3, 1) := by decide +kernel
theorem dX2_learn_71 : decode cX2_learn 71 = .ok (.aload_n 0, 1) := by decide +kernel
theorem dX2_learn_72 : decode cX2_learn 72 = .ok (.getfield 27, 3) := by decide +kernel
theorem dX2_learn_75 : decode cX2_learn 75 = .ok (.iload_n 1, 1) := by decide +kernel
theorem dX2_learn_76 : decode cX2_learn 76 = .ok (.aload_n 0, 1) := by decide +kernel
theorem dX2_learn_77 : decode cX2_learn 77 = .ok (.iload_n 3, 1) := by decide +kernel
theorem dX2_learn_78 : decode cX2_learn 78 = .ok (.iload_n 1, 1) := by decide +kernel
theorem dX2_learn_79 : decode cX2_learn 79 = .ok (.invokevirtual 82, 3) := by decide +kernel
theorem dX2_learn_82 : decode cX2_learn 82 = .ok (.iconst 1, 1) := by decide +kernel
theorem dX2_learn_83 : decode cX2_learn 83 = .ok (.if_icmp .ne 16, 3) := by decide +kernel
theorem dX2_learn_86 : decode cX2_learn 86 = .ok (.aload_n 0, 1) := by decide +kernel
theorem dX2_learn_87 : decode cX2_learn 87 = .ok (.getfield 27, 3) := by decide +kernel
theorem dX2_learn_90 : decode cX2_learn 90 = .ok (.iload_n 1, 1) := by decide +kernel
theorem dX2_learn_91 : decode cX2_learn 91 = .ok (.iaload, 1) := by decide +kernel
theorem dX2_learn_92 : decode cX2_learn 92 = .ok (.iconst 1, 1) := by decide +kernel
theorem dX2_learn_93 : decode cX2_learn 93 = .ok (.iload_n 2, 1) := by decide +kernel
theorem dX2_learn_94 : decode cX2_learn 94 = .ok (.ishl, 1) := by decide +kernel
theorem dX2_learn_95 : decode cX2_learn 95 = .ok (.ior, 1) := by decide +kernel
theorem dX2_learn_96 : decode cX2_learn 96 = .ok (.goto 9, 3) := by decide +kernel
theorem dX2_learn_99 : decode cX2_learn 99 = .ok (.aload_n 0, 1) := by decide +kernel
theorem dX2_learn_100 : decode cX2_learn 100 = .ok (.getfield 27, 3) := by decide +kernel
theorem dX2_learn_103 : decode cX2_learn 103 = .ok (.iload_n 1, 1) := by decide +kernel
theorem dX2_learn_104 : decode cX2_learn 104 = .ok (.iaload, 1) := by decide +kernel
theorem dX2_learn_105 : decode cX2_learn 105 = .ok (.iastore, 1) := by decide +kernel
theorem dX2_learn_106 : decode cX2_learn 106 = .ok (.iinc 2 1, 3) := by decide +kernel
theorem dX2_learn_109 : decode cX2_learn 109 = .ok (.goto (-70), 3) := by decide +kernel
theorem dX2_learn_112 : decode cX2_learn 112 = .ok (.iinc 1 1, 3) := by decide +kernel
theorem dX2_learn_115 : decode cX2_learn 115 = .ok (.goto (-86), 3) := by decide +kernel
theorem dX2_learn_118 : decode cX2_learn 118 = .ok (.aload_n 0, 1) := by decide +kernel
theorem dX2_learn_119 : decode cX2_learn 119 = .ok (.invokevirtual 99, 3) := by decide +kernel
theorem dX2_learn_122 : decode cX2_learn 122 = .ok (.ireturn, 1) := by decide +kernel
theorem dL_law_0 : decode code 0 = .ok (.new 7, 3) := by decide +kernel
theorem dL_law_3 : decode code 3 = .ok (.dup, 1) := by decide +kernel
theorem dL_law_4 : decode code 4 = .ok (.aload_n 0, 1) := by decide +kernel
theorem dL_law_5 : decode code 5 = .ok (.iconst 0, 1) := by decide +kernel
theorem dL_law_6 : decode code 6 = .ok (.invokestatic 9, 3) := by decide +kernel
theorem dL_law_9 : decode code 9 = .ok (.aload_n 0, 1) := by decide +kernel
theorem dL_law_10 : decode code 10 = .ok (.iconst 1, 1) := by decide +kernel
theorem dL_law_11 : decode code 11 = .ok (.invokestatic 9, 3) := by decide +kernel
theorem dL_law_14 : decode code 14 = .ok (.invokespecial 15, 3) := by decide +kernel
theorem dL_law_17 : decode code 17 = .ok (.astore_n 1, 1) := by decide +kernel
theorem dL_law_18 : decode code 18 = .ok (.new 18, 3) := by decide +kernel
theorem dL_law_21 : decode code 21 = .ok (.dup, 1) := by decide +kernel
theorem dL_law_22 : decode code 22 = .ok (.aload_n 0, 1) := by decide +kernel
theorem dL_law_23 : decode code 23 = .ok (.iconst 0, 1) := by decide +kernel
theorem dL_law_24 : decode code 24 = .ok (.invokestatic 9, 3) := by decide +kernel
theorem dL_law_27 : decode code 27 = .ok (.aload_n 0, 1) := by decide +kernel
theorem dL_law_28 : decode code 28 = .ok (.iconst 1, 1) := by decide +kernel
theorem dL_law_29 : decode code 29 = .ok (.invokestatic 9, 3) := by decide +kernel
theorem dL_law_32 : decode code 32 = .ok (.invokespecial 20, 3) := by decide +kernel
theorem dL_law_35 : decode code 35 = .ok (.astore_n 2, 1) := by decide +kernel
theorem dL_law_36 : decode code 36 = .ok (.iconst 2, 1) := by decide +kernel
theorem dL_law_37 : decode code 37 = .ok (.istore_n 3, 1) := by decide +kernel
theorem dL_law_38 : decode code 38 = .ok (.iload_n 3, 1) := by decide +kernel
theorem dL_law_39 : decode code 39 = .ok (.aload_n 0, 1) := by decide +kernel
theorem dL_law_40 : decode code 40 = .ok (.arraylength, 1) := by decide +kernel
theorem dL_law_41 : decode code 41 = .ok (.iconst 3, 1) := by decide +kernel
theorem dL_law_42 : decode code 42 = .ok (.isub, 1) := by decide +kernel
theorem dL_law_43 : decode code 43 = .ok (.if_icmp .gt 504, 3) := by decide +kernel
theorem dL_law_46 : decode code 46 = .ok (.aload_n 0, 1) := by decide +kernel
theorem dL_law_47 : decode code 47 = .ok (.iload_n 3, 1) := by decide +kernel
theorem dL_law_48 : decode code 48 = .ok (.iaload, 1) := by decide +kernel
theorem dL_law_49 : decode code 49 = .ok (.bipush 31, 2) := by decide +kernel
theorem dL_law_51 : decode code 51 = .ok (.iand, 1) := by decide +kernel
theorem dL_law_52 : decode code 52 = .ok (.tableswitch 489 0 18 #[92, 105, 118, 151, 174, 187, 210, 223, 236, 249, 262, 295, 328, 351, 384, 397, 430, 443, 456], 92) := by decide +kernel
theorem dL_law_144 : decode code 144 = .ok (.aload_n 1, 1) := by decide +kernel
theorem dL_law_145 : decode code 145 = .ok (.invokevirtual 21, 3) := by decide +kernel
theorem dL_law_148 : decode code 148 = .ok (.aload_n 2, 1) := by decide +kernel
theorem dL_law_149 : decode code 149 = .ok (.invokevirtual 25, 3) := by decide +kernel
theorem dL_law_152 : decode code 152 = .ok (.if_icmp .eq 389, 3) := by decide +kernel
theorem dL_law_155 : decode code 155 = .ok (.iconst 0, 1) := by decide +kernel
theorem dL_law_156 : decode code 156 = .ok (.ireturn, 1) := by decide +kernel
theorem dL_law_157 : decode code 157 = .ok (.aload_n 1, 1) := by decide +kernel
theorem dL_law_158 : decode code 158 = .ok (.invokevirtual 26, 3) := by decide +kernel
theorem dL_law_161 : decode code 161 = .ok (.aload_n 2, 1) := by decide +kernel
theorem dL_law_162 : decode code 162 = .ok (.invokevirtual 29, 3) := by decide +kernel
theorem dL_law_165 : decode code 165 = .ok (.if_icmp .eq 376, 3) := by decide +kernel
theorem dL_law_168 : decode code 168 = .ok (.iconst 0, 1) := by decide +kernel
theorem dL_law_169 : decode code 169 = .ok (.ireturn, 1) := by decide +kernel
theorem dL_law_170 : decode code 170 = .ok (.aload_n 1, 1) := by decide +kernel
theorem dL_law_171 : decode code 171 = .ok (.aload_n 0, 1) := by decide +kernel
theorem dL_law_172 : decode code 172 = .ok (.iload_n 3, 1) := by decide +kernel
theorem dL_law_173 : decode code 173 = .ok (.iconst 1, 1) := by decide +kernel
theorem dL_law_174 : decode code 174 = .ok (.iadd, 1) := by decide +kernel
theorem dL_law_175 : decode code 175 = .ok (.iaload, 1) := by decide +kernel
theorem dL_law_176 : decode code 176 = .ok (.aload_n 0, 1) := by decide +kernel
theorem dL_law_177 : decode code 177 = .ok (.iload_n 3, 1) := by decide +kernel
theorem dL_law_178 : decode code 178 = .ok (.iconst 2, 1) := by decide +kernel
theorem dL_law_179 : decode code 179 = .ok (.iadd, 1) := by decide +kernel
theorem dL_law_180 : decode code 180 = .ok (.iaload, 1) := by decide +kernel
theorem dL_law_181 : decode code 181 = .ok (.invokevirtual 30, 3) := by decide +kernel
theorem dL_law_184 : decode code 184 = .ok (.aload_n 2, 1) := by decide +kernel
theorem dL_law_185 : decode code 185 = .ok (.aload_n 0, 1) := by decide +kernel
theorem dL_law_186 : decode code 186 = .ok (.iload_n 3, 1) := by decide +kernel
theorem dL_law_187 : decode code 187 = .ok (.iconst 1, 1) := by decide +kernel
theorem dL_law_188 : decode code 188 = .ok (.iadd, 1) := by decide +kernel
theorem dL_law_189 : decode code 189 = .ok (.iaload, 1) := by decide +kernel
theorem dL_law_190 : decode code 190 = .ok (.aload_n 0, 1) := by decide +kernel
theorem dL_law_191 : decode code 191 = .ok (.iload_n 3, 1) := by decide +kernel
theorem dL_law_192 : decode code 192 = .ok (.iconst 2, 1) := by decide +kernel
theorem dL_law_193 : decode code 193 = .ok (.iadd, 1) := by decide +kernel
theorem dL_law_194 : decode code 194 = .ok (.iaload, 1) := by decide +kernel
theorem dL_law_195 : decode code 195 = .ok (.invokevirtual 34, 3) := by decide +kernel
theorem dL_law_198 : decode code 198 = .ok (.if_icmp .eq 343, 3) := by decide +kernel
theorem dL_law_201 : decode code 201 = .ok (.iconst 0, 1) := by decide +kernel
theorem dL_law_202 : decode code 202 = .ok (.ireturn, 1) := by decide +kernel
theorem dL_law_203 : decode code 203 = .ok (.aload_n 1, 1) := by decide +kernel
theorem dL_law_204 : decode code 204 = .ok (.aload_n 0, 1) := by decide +kernel
theorem dL_law_205 : decode code 205 = .ok (.iload_n 3, 1) := by decide +kernel
theorem dL_law_206 : decode code 206 = .ok (.iconst 1, 1) := by decide +kernel
theorem dL_law_207 : decode code 207 = .ok (.iadd, 1) := by decide +kernel
theorem dL_law_208 : decode code 208 = .ok (.iaload, 1) := by decide +kernel
theorem dL_law_209 : decode code 209 = .ok (.invokevirtual 35, 3) := by decide +kernel
theorem dL_law_212 : decode code 212 = .ok (.aload_n 2, 1) := by decide +kernel
theorem dL_law_213 : decode code 213 = .ok (.aload_n 0, 1) := by decide +kernel
theorem dL_law_214 : decode code 214 = .ok (.iload_n 3, 1) := by decide +kernel
theorem dL_law_215 : decode code 215 = .ok (.iconst 1, 1) := by decide +kernel
theorem dL_law_216 : decode code 216 = .ok (.iadd, 1) := by decide +kernel
theorem dL_law_217 : decode code 217 = .ok (.iaload, 1) := by decide +kernel
theorem dL_law_218 : decode code 218 = .ok (.invokevirtual 39, 3) := by decide +kernel
theorem dL_law_221 : decode code 221 = .ok (.if_icmp .eq 320, 3) := by decide +kernel
theorem dL_law_224 : decode code 224 = .ok (.iconst 0, 1) := by decide +kernel
theorem dL_law_225 : decode code 225 = .ok (.ireturn, 1) := by decide +kernel
theorem dL_law_226 : decode code 226 = .ok (.aload_n 1, 1) := by decide +kernel
theorem dL_law_227 : decode code 227 = .ok (.invokevirtual 40, 3) := by decide +kernel
theorem dL_law_230 : decode code 230 = .ok (.aload_n 2, 1) := by decide +kernel
theorem dL_law_231 : decode code 231 = .ok (.invokevirtual 43, 3) := by decide +kernel
theorem dL_law_234 : decode code 234 = .ok (.if_icmp .eq 307, 3) := by decide +kernel
theorem dL_law_237 : decode code 237 = .ok (.iconst 0, 1) := by decide +kernel
theorem dL_law_238 : decode code 238 = .ok (.ireturn, 1) := by decide +kernel
theorem dL_law_239 : decode code 239 = .ok (.aload_n 1, 1) := by decide +kernel
theorem dL_law_240 : decode code 240 = .ok (.aload_n 0, 1) := by decide +kernel
theorem dL_law_241 : decode code 241 = .ok (.iload_n 3, 1) := by decide +kernel
theorem dL_law_242 : decode code 242 = .ok (.iconst 1, 1) := by decide +kernel
theorem dL_law_243 : decode code 243 = .ok (.iadd, 1) := by decide +kernel
theorem dL_law_244 : decode code 244 = .ok (.iaload, 1) := by decide +kernel
theorem dL_law_245 : decode code 245 = .ok (.invokevirtual 44, 3) := by decide +kernel
theorem dL_law_248 : decode code 248 = .ok (.aload_n 2, 1) := by decide +kernel
theorem dL_law_249 : decode code 249 = .ok (.aload_n 0, 1) := by decide +kernel
theorem dL_law_250 : decode code 250 = .ok (.iload_n 3, 1) := by decide +kernel
theorem dL_law_251 : decode code 251 = .ok (.iconst 1, 1) := by decide +kernel
theorem dL_law_252 : decode code 252 = .ok (.iadd, 1) := by decide +kernel
theorem dL_law_253 : decode code 253 = .ok (.iaload, 1) := by decide +kernel
theorem dL_law_254 : decode code 254 = .ok (.invokevirtual 48, 3) := by decide +kernel
theorem dL_law_257 : decode code 257 = .ok (.if_icmp .eq 284, 3) := by decide +kernel
theorem dL_law_260 : decode code 260 = .ok (.iconst 0, 1) := by decide +kernel
theorem dL_law_261 : decode code 261 = .ok (.ireturn, 1) := by decide +kernel
theorem dL_law_262 : decode code 262 = .ok (.aload_n 1, 1) := by decide +kernel
theorem dL_law_263 : decode code 263 = .ok (.invokevirtual 49, 3) := by decide +kernel
theorem dL_law_266 : decode code 266 = .ok (.aload_n 2, 1) := by decide +kernel
theorem dL_law_267 : decode code 267 = .ok (.invokevirtual 53, 3) := by decide +kernel
theorem dL_law_270 : decode code 270 = .ok (.if_icmp .eq 271, 3) := by decide +kernel
theorem dL_law_273 : decode code 273 = .ok (.iconst 0, 1) := by decide +kernel
theorem dL_law_274 : decode code 274 = .ok (.ireturn, 1) := by decide +kernel
theorem dL_law_275 : decode code 275 = .ok (.aload_n 1, 1) := by decide +kernel
theorem dL_law_276 : decode code 276 = .ok (.invokevirtual 54, 3) := by decide +kernel
theorem dL_law_279 : decode code 279 = .ok (.aload_n 2, 1) := by decide +kernel
theorem dL_law_280 : decode code 280 = .ok (.invokevirtual 57, 3) := by decide +kernel
theorem dL_law_283 : decode code 283 = .ok (.if_icmp .eq 258, 3) := by decide +kernel
theorem dL_law_286 : decode code 286 = .ok (.iconst 0, 1) := by decide +kernel
theorem dL_law_287 : decode code 287 = .ok (.ireturn, 1) := by decide +kernel
theorem dL_law_288 : decode code 288 = .ok (.aload_n 1, 1) := by decide +kernel
theorem dL_law_289 : decode code 289 = .ok (.invokevirtual 58, 3) := by decide +kernel
theorem dL_law_292 : decode code 292 = .ok (.aload_n 2, 1) := by decide +kernel
theorem dL_law_293 : decode code 293 = .ok (.invokevirtual 61, 3) := by decide +kernel
theorem dL_law_296 : decode code 296 = .ok (.if_icmp .eq 245, 3) := by decide +kernel
theorem dL_law_299 : decode code 299 = .ok (.iconst 0, 1) := by decide +kernel
theorem dL_law_300 : decode code 300 = .ok (.ireturn, 1) := by decide +kernel
theorem dL_law_301 : decode code 301 = .ok (.aload_n 1, 1) := by decide +kernel
theorem dL_law_302 : decode code 302 = .ok (.invokevirtual 62, 3) := by decide +kernel
theorem dL_law_305 : decode code 305 = .ok (.aload_n 2, 1) := by decide +kernel
theorem dL_law_306 : decode code 306 = .ok (.invokevirtual 65, 3) := by decide +kernel
theorem dL_law_309 : decode code 309 = .ok (.if_icmp .eq 232, 3) := by decide +kernel
theorem dL_law_312 : decode code 312 = .ok (.iconst 0, 1) := by decide +kernel
theorem dL_law_313 : decode code 313 = .ok (.ireturn, 1) := by decide +kernel
theorem dL_law_314 : decode code 314 = .ok (.aload_n 1, 1) := by decide +kernel
theorem dL_law_315 : decode code 315 = .ok (.aload_n 0, 1) := by decide +kernel
theorem dL_law_316 : decode code 316 = .ok (.iload_n 3, 1) := by decide +kernel
theorem dL_law_317 : decode code 317 = .ok (.iconst 1, 1) := by decide +kernel
theorem dL_law_318 : decode code 318 = .ok (.iadd, 1) := by decide +kernel
theorem dL_law_319 : decode code 319 = .ok (.iaload, 1) := by decide +kernel
theorem dL_law_320 : decode code 320 = .ok (.aload_n 0, 1) := by decide +kernel
theorem dL_law_321 : decode code 321 = .ok (.iload_n 3, 1) := by decide +kernel
theorem dL_law_322 : decode code 322 = .ok (.iconst 2, 1) := by decide +kernel
theorem dL_law_323 : decode code 323 = .ok (.iadd, 1) := by decide +kernel
theorem dL_law_324 : decode code 324 = .ok (.iaload, 1) := by decide +kernel
theorem dL_law_325 : decode code 325 = .ok (.invokevirtual 66, 3) := by decide +kernel
theorem dL_law_328 : decode code 328 = .ok (.aload_n 2, 1) := by decide +kernel
theorem dL_law_329 : decode code 329 = .ok (.aload_n 0, 1) := by decide +kernel
theorem dL_law_330 : decode code 330 = .ok (.iload_n 3, 1) := by decide +kernel
theorem dL_law_331 : decode code 331 = .ok (.iconst 1, 1) := by decide +kernel
theorem dL_law_332 : decode code 332 = .ok (.iadd, 1) := by decide +kernel
theorem dL_law_333 : decode code 333 = .ok (.iaload, 1) := by decide +kernel
theorem dL_law_334 : decode code 334 = .ok (.aload_n 0, 1) := by decide +kernel
theorem dL_law_335 : decode code 335 = .ok (.iload_n 3, 1) := by decide +kernel
theorem dL_law_336 : decode code 336 = .ok (.iconst 2, 1) := by decide +kernel
theorem dL_law_337 : decode code 337 = .ok (.iadd, 1) := by decide +kernel
theorem dL_law_338 : decode code 338 = .ok (.iaload, 1) := by decide +kernel
theorem dL_law_339 : decode code 339 = .ok (.invokevirtual 69, 3) := by decide +kernel
theorem dL_law_342 : decode code 342 = .ok (.if_icmp .eq 199, 3) := by decide +kernel
theorem dL_law_345 : decode code 345 = .ok (.iconst 0, 1) := by decide +kernel
theorem dL_law_346 : decode code 346 = .ok (.ireturn, 1) := by decide +kernel
theorem dL_law_347 : decode code 347 = .ok (.aload_n 1, 1) := by decide +kernel
theorem dL_law_348 : decode code 348 = .ok (.aload_n 0, 1) := by decide +kernel
theorem dL_law_349 : decode code 349 = .ok (.iload_n 3, 1) := by decide +kernel
theorem dL_law_350 : decode code 350 = .ok (.iconst 1, 1) := by decide +kernel
theorem dL_law_351 : decode code 351 = .ok (.iadd, 1) := by decide +kernel
theorem dL_law_352 : decode code 352 = .ok (.iaload, 1) := by decide +kernel
theorem dL_law_353 : decode code 353 = .ok (.aload_n 0, 1) := by decide +kernel
theorem dL_law_354 : decode code 354 = .ok (.iload_n 3, 1) := by decide +kernel
theorem dL_law_355 : decode code 355 = .ok (.iconst 2, 1) := by decide +kernel
theorem dL_law_356 : decode code 356 = .ok (.iadd, 1) := by decide +kernel
theorem dL_law_357 : decode code 357 = .ok (.iaload, 1) := by decide +kernel
theorem dL_law_358 : decode code 358 = .ok (.invokevirtual 70, 3) := by decide +kernel
theorem dL_law_361 : decode code 361 = .ok (.aload_n 2, 1) := by decide +kernel
theorem dL_law_362 : decode code 362 = .ok (.aload_n 0, 1) := by decide +kernel
theorem dL_law_363 : decode code 363 = .ok (.iload_n 3, 1) := by decide +kernel
theorem dL_law_364 : decode code 364 = .ok (.iconst 1, 1) := by decide +kernel
theorem dL_law_365 : decode code 365 = .ok (.iadd, 1) := by decide +kernel
theorem dL_law_366 : decode code 366 = .ok (.iaload, 1) := by decide +kernel
theorem dL_law_367 : decode code 367 = .ok (.aload_n 0, 1) := by decide +kernel
theorem dL_law_368 : decode code 368 = .ok (.iload_n 3, 1) := by decide +kernel
theorem dL_law_369 : decode code 369 = .ok (.iconst 2, 1) := by decide +kernel
theorem dL_law_370 : decode code 370 = .ok (.iadd, 1) := by decide +kernel
theorem dL_law_371 : decode code 371 = .ok (.iaload, 1) := by decide +kernel
theorem dL_law_372 : decode code 372 = .ok (.invokevirtual 73, 3) := by decide +kernel
theorem dL_law_375 : decode code 375 = .ok (.if_icmp .eq 166, 3) := by decide +kernel
theorem dL_law_378 : decode code 378 = .ok (.iconst 0, 1) := by decide +kernel
theorem dL_law_379 : decode code 379 = .ok (.ireturn, 1) := by decide +kernel
theorem dL_law_380 : decode code 380 = .ok (.aload_n 1, 1) := by decide +kernel
theorem dL_law_381 : decode code 381 = .ok (.aload_n 0, 1) := by decide +kernel
theorem dL_law_382 : decode code 382 = .ok (.iload_n 3, 1) := by decide +kernel
theorem dL_law_383 : decode code 383 = .ok (.iconst 1, 1) := by decide +kernel
theorem dL_law_384 : decode code 384 = .ok (.iadd, 1) := by decide +kernel
theorem dL_law_385 : decode code 385 = .ok (.iaload, 1) := by decide +kernel
theorem dL_law_386 : decode code 386 = .ok (.invokevirtual 74, 3) := by decide +kernel
theorem dL_law_389 : decode code 389 = .ok (.aload_n 2, 1) := by decide +kernel
theorem dL_law_390 : decode code 390 = .ok (.aload_n 0, 1) := by decide +kernel
theorem dL_law_391 : decode code 391 = .ok (.iload_n 3, 1) := by decide +kernel
theorem dL_law_392 : decode code 392 = .ok (.iconst 1, 1) := by decide +kernel
theorem dL_law_393 : decode code 393 = .ok (.iadd, 1) := by decide +kernel
theorem dL_law_394 : decode code 394 = .ok (.iaload, 1) := by decide +kernel
theorem dL_law_395 : decode code 395 = .ok (.invokevirtual 77, 3) := by decide +kernel
theorem dL_law_398 : decode code 398 = .ok (.if_icmp .eq 143, 3) := by decide +kernel
theorem dL_law_401 : decode code 401 = .ok (.iconst 0, 1) := by decide +kernel
theorem dL_law_402 : decode code 402 = .ok (.ireturn, 1) := by decide +kernel
theorem dL_law_403 : decode code 403 = .ok (.aload_n 1, 1) := by decide +kernel
theorem dL_law_404 : decode code 404 = .ok (.aload_n 0, 1) := by decide +kernel
theorem dL_law_405 : decode code 405 = .ok (.iload_n 3, 1) := by decide +kernel
theorem dL_law_406 : decode code 406 = .ok (.iconst 1, 1) := by decide +kernel
theorem dL_law_407 : decode code 407 = .ok (.iadd, 1) := by decide +kernel
theorem dL_law_408 : decode code 408 = .ok (.iaload, 1) := by decide +kernel
theorem dL_law_409 : decode code 409 = .ok (.aload_n 0, 1) := by decide +kernel
theorem dL_law_410 : decode code 410 = .ok (.iload_n 3, 1) := by decide +kernel
theorem dL_law_411 : decode code 411 = .ok (.iconst 2, 1) := by decide +kernel
theorem dL_law_412 : decode code 412 = .ok (.iadd, 1) := by decide +kernel
theorem dL_law_413 : decode code 413 = .ok (.iaload, 1) := by decide +kernel
theorem dL_law_414 : decode code 414 = .ok (.invokevirtual 78, 3) := by decide +kernel
theorem dL_law_417 : decode code 417 = .ok (.aload_n 2, 1) := by decide +kernel
theorem dL_law_418 : decode code 418 = .ok (.aload_n 0, 1) := by decide +kernel
theorem dL_law_419 : decode code 419 = .ok (.iload_n 3, 1) := by decide +kernel
theorem dL_law_420 : decode code 420 = .ok (.iconst 1, 1) := by decide +kernel
theorem dL_law_421 : decode code 421 = .ok (.iadd, 1) := by decide +kernel
theorem dL_law_422 : decode code 422 = .ok (.iaload, 1) := by decide +kernel
theorem dL_law_423 : decode code 423 = .ok (.aload_n 0, 1) := by decide +kernel
theorem dL_law_424 : decode code 424 = .ok (.iload_n 3, 1) := by decide +kernel
theorem dL_law_425 : decode code 425 = .ok (.iconst 2, 1) := by decide +kernel
theorem dL_law_426 : decode code 426 = .ok (.iadd, 1) := by decide +kernel
theorem dL_law_427 : decode code 427 = .ok (.iaload, 1) := by decide +kernel
theorem dL_law_428 : decode code 428 = .ok (.invokevirtual 82, 3) := by decide +kernel
theorem dL_law_431 : decode code 431 = .ok (.if_icmp .eq 110, 3) := by decide +kernel
theorem dL_law_434 : decode code 434 = .ok (.iconst 0, 1) := by decide +kernel
theorem dL_law_435 : decode code 435 = .ok (.ireturn, 1) := by decide +kernel
theorem dL_law_436 : decode code 436 = .ok (.aload_n 1, 1) := by decide +kernel
theorem dL_law_437 : decode code 437 = .ok (.invokevirtual 83, 3) := by decide +kernel
theorem dL_law_440 : decode code 440 = .ok (.aload_n 2, 1) := by decide +kernel
theorem dL_law_441 : decode code 441 = .ok (.invokevirtual 86, 3) := by decide +kernel
theorem dL_law_444 : decode code 444 = .ok (.if_icmp .eq 97, 3) := by decide +kernel
theorem dL_law_447 : decode code 447 = .ok (.iconst 0, 1) := by decide +kernel
theorem dL_law_448 : decode code 448 = .ok (.ireturn, 1) := by decide +kernel
theorem dL_law_449 : decode code 449 = .ok (.aload_n 1, 1) := by decide +kernel
theorem dL_law_450 : decode code 450 = .ok (.aload_n 0, 1) := by decide +kernel
theorem dL_law_451 : decode code 451 = .ok (.iload_n 3, 1) := by decide +kernel
theorem dL_law_452 : decode code 452 = .ok (.iconst 1, 1) := by decide +kernel
theorem dL_law_453 : decode code 453 = .ok (.iadd, 1) := by decide +kernel
theorem dL_law_454 : decode code 454 = .ok (.iaload, 1) := by decide +kernel
theorem dL_law_455 : decode code 455 = .ok (.aload_n 0, 1) := by decide +kernel
theorem dL_law_456 : decode code 456 = .ok (.iload_n 3, 1) := by decide +kernel
theorem dL_law_457 : decode code 457 = .ok (.iconst 2, 1) := by decide +kernel
theorem dL_law_458 : decode code 458 = .ok (.iadd, 1) := by decide +kernel
theorem dL_law_459 : decode code 459 = .ok (.iaload, 1) := by decide +kernel
theorem dL_law_460 : decode code 460 = .ok (.invokevirtual 87, 3) := by decide +kernel
theorem dL_law_463 : decode code 463 = .ok (.aload_n 2, 1) := by decide +kernel
theorem dL_law_464 : decode code 464 = .ok (.aload_n 0, 1) := by decide +kernel
theorem dL_law_465 : decode code 465 = .ok (.iload_n 3, 1) := by decide +kernel
theorem dL_law_466 : decode code 466 = .ok (.iconst 1, 1) := by decide +kernel
theorem dL_law_467 : decode code 467 = .ok (.iadd, 1) := by decide +kernel
theorem dL_law_468 : decode code 468 = .ok (.iaload, 1) := by decide +kernel
theorem dL_law_469 : decode code 469 = .ok (.aload_n 0, 1) := by decide +kernel
theorem dL_law_470 : decode code 470 = .ok (.iload_n 3, 1) := by decide +kernel
theorem dL_law_471 : decode code 471 = .ok (.iconst 2, 1) := by decide +kernel
theorem dL_law_472 : decode code 472 = .ok (.iadd, 1) := by decide +kernel
theorem dL_law_473 : decode code 473 = .ok (.iaload, 1) := by decide +kernel
theorem dL_law_474 : decode code 474 = .ok (.invokevirtual 90, 3) := by decide +kernel
theorem dL_law_477 : decode code 477 = .ok (.if_icmp .eq 64, 3) := by decide +kernel
theorem dL_law_480 : decode code 480 = .ok (.iconst 0, 1) := by decide +kernel
theorem dL_law_481 : decode code 481 = .ok (.ireturn, 1) := by decide +kernel
theorem dL_law_482 : decode code 482 = .ok (.aload_n 1, 1) := by decide +kernel
theorem dL_law_483 : decode code 483 = .ok (.invokevirtual 91, 3) := by decide +kernel
theorem dL_law_486 : decode code 486 = .ok (.aload_n 2, 1) := by decide +kernel
theorem dL_law_487 : decode code 487 = .ok (.invokevirtual 94, 3) := by decide +kernel
theorem dL_law_490 : decode code 490 = .ok (.if_icmp .eq 51, 3) := by decide +kernel
theorem dL_law_493 : decode code 493 = .ok (.iconst 0, 1) := by decide +kernel
theorem dL_law_494 : decode code 494 = .ok (.ireturn, 1) := by decide +kernel
theorem dL_law_495 : decode code 495 = .ok (.aload_n 1, 1) := by decide +kernel
theorem dL_law_496 : decode code 496 = .ok (.invokevirtual 95, 3) := by decide +kernel
theorem dL_law_499 : decode code 499 = .ok (.aload_n 2, 1) := by decide +kernel
theorem dL_law_500 : decode code 500 = .ok (.invokevirtual 98, 3) := by decide +kernel
theorem dL_law_503 : decode code 503 = .ok (.if_icmp .eq 38, 3) := by decide +kernel
theorem dL_law_506 : decode code 506 = .ok (.iconst 0, 1) := by decide +kernel
theorem dL_law_507 : decode code 507 = .ok (.ireturn, 1) := by decide +kernel
theorem dL_law_508 : decode code 508 = .ok (.aload_n 1, 1) := by decide +kernel
theorem dL_law_509 : decode code 509 = .ok (.aload_n 0, 1) := by decide +kernel
theorem dL_law_510 : decode code 510 = .ok (.iload_n 3, 1) := by decide +kernel
theorem dL_law_511 : decode code 511 = .ok (.iconst 1, 1) := by decide +kernel
theorem dL_law_512 : decode code 512 = .ok (.iadd, 1) := by decide +kernel
theorem dL_law_513 : decode code 513 = .ok (.iaload, 1) := by decide +kernel
theorem dL_law_514 : decode code 514 = .ok (.aload_n 0, 1) := by decide +kernel
theorem dL_law_515 : decode code 515 = .ok (.iload_n 3, 1) := by decide +kernel
theorem dL_law_516 : decode code 516 = .ok (.iconst 2, 1) := by decide +kernel
theorem dL_law_517 : decode code 517 = .ok (.iadd, 1) := by decide +kernel
theorem dL_law_518 : decode code 518 = .ok (.iaload, 1) := by decide +kernel
theorem dL_law_519 : decode code 519 = .ok (.invokevirtual 99, 3) := by decide +kernel
theorem dL_law_522 : decode code 522 = .ok (.aload_n 2, 1) := by decide +kernel
theorem dL_law_523 : decode code 523 = .ok (.aload_n 0, 1) := by decide +kernel
theorem dL_law_524 : decode code 524 = .ok (.iload_n 3, 1) := by decide +kernel
theorem dL_law_525 : decode code 525 = .ok (.iconst 1, 1) := by decide +kernel
theorem dL_law_526 : decode code 526 = .ok (.iadd, 1) := by decide +kernel
theorem dL_law_527 : decode code 527 = .ok (.iaload, 1) := by decide +kernel
theorem dL_law_528 : decode code 528 = .ok (.aload_n 0, 1) := by decide +kernel
theorem dL_law_529 : decode code 529 = .ok (.iload_n 3, 1) := by decide +kernel
theorem dL_law_530 : decode code 530 = .ok (.iconst 2, 1) := by decide +kernel
theorem dL_law_531 : decode code 531 = .ok (.iadd, 1) := by decide +kernel
theorem dL_law_532 : decode code 532 = .ok (.iaload, 1) := by decide +kernel
theorem dL_law_533 : decode code 533 = .ok (.invokevirtual 102, 3) := by decide +kernel
theorem dL_law_536 : decode code 536 = .ok (.if_icmp .eq 5, 3) := by decide +kernel
theorem dL_law_539 : decode code 539 = .ok (.iconst 0, 1) := by decide +kernel
theorem dL_law_540 : decode code 540 = .ok (.ireturn, 1) := by decide +kernel
theorem dL_law_541 : decode code 541 = .ok (.iinc 3 3, 3) := by decide +kernel
theorem dL_law_544 : decode code 544 = .ok (.goto (-506), 3) := by decide +kernel
theorem dL_law_547 : decode code 547 = .ok (.iconst 1, 1) := by decide +kernel
theorem dL_law_548 : decode code 548 = .ok (.ireturn, 1) := by decide +kernel
