theorem dX2_drop_58 : decode cX2_drop 58 = .ok (.iinc 2 1, 3) := by decide +kernel
theorem dX2_drop_61 : decode cX2_drop 61 = .ok (.goto (-39), 3) := by decide +kernel
theorem dX2_drop_64 : decode cX2_drop 64 = .ok (.aload_n 0, 1) := by decide +kernel
theorem dX2_drop_65 : decode cX2_drop 65 = .ok (.iconst 0, 1) := by decide +kernel
theorem dX2_drop_66 : decode cX2_drop 66 = .ok (.putfield 43, 3) := by decide +kernel
theorem dX2_drop_69 : decode cX2_drop 69 = .ok (.iconst 1, 1) := by decide +kernel
theorem dX2_drop_70 : decode cX2_drop 70 = .ok (.ireturn, 1) := by decide +kernel
theorem dX2_noClause_0 : decode cX2_noClause 0 = .ok (.iload_n 1, 1) := by decide +kernel
theorem dX2_noClause_1 : decode cX2_noClause 1 = .ok (.ifCond .lt 11, 3) := by decide +kernel
theorem dX2_noClause_4 : decode cX2_noClause 4 = .ok (.iload_n 1, 1) := by decide +kernel
theorem dX2_noClause_5 : decode cX2_noClause 5 = .ok (.aload_n 0, 1) := by decide +kernel
theorem dX2_noClause_6 : decode cX2_noClause 6 = .ok (.getfield 40, 3) := by decide +kernel
theorem dX2_noClause_9 : decode cX2_noClause 9 = .ok (.if_icmp .lt 7, 3) := by decide +kernel
theorem dX2_noClause_12 : decode cX2_noClause 12 = .ok (.iconst 1, 1) := by decide +kernel
theorem dX2_noClause_13 : decode cX2_noClause 13 = .ok (.goto 4, 3) := by decide +kernel
theorem dX2_noClause_16 : decode cX2_noClause 16 = .ok (.iconst 0, 1) := by decide +kernel
theorem dX2_noClause_17 : decode cX2_noClause 17 = .ok (.ireturn, 1) := by decide +kernel
theorem dX2_clauses_0 : decode cX2_clauses 0 = .ok (.aload_n 0, 1) := by decide +kernel
theorem dX2_clauses_1 : decode cX2_clauses 1 = .ok (.getfield 40, 3) := by decide +kernel
theorem dX2_clauses_4 : decode cX2_clauses 4 = .ok (.ireturn, 1) := by decide +kernel
theorem dX2_play_0 : decode cX2_play 0 = .ok (.iload_n 1, 1) := by decide +kernel
theorem dX2_play_1 : decode cX2_play 1 = .ok (.ifCond .lt 19, 3) := by decide +kernel
theorem dX2_play_4 : decode cX2_play 4 = .ok (.iload_n 1, 1) := by decide +kernel
theorem dX2_play_5 : decode cX2_play 5 = .ok (.iconst 1, 1) := by decide +kernel
theorem dX2_play_6 : decode cX2_play 6 = .ok (.if_icmp .gt 14, 3) := by decide +kernel
theorem dX2_play_9 : decode cX2_play 9 = .ok (.aload_n 0, 1) := by decide +kernel
theorem dX2_play_10 : decode cX2_play 10 = .ok (.getfield 76, 3) := by decide +kernel
theorem dX2_play_13 : decode cX2_play 13 = .ok (.aload_n 0, 1) := by decide +kernel
theorem dX2_play_14 : decode cX2_play 14 = .ok (.getfield 30, 3) := by decide +kernel
theorem dX2_play_17 : decode cX2_play 17 = .ok (.if_icmp .ne 5, 3) := by decide +kernel
theorem dX2_play_20 : decode cX2_play 20 = .ok (.iconst (-1), 1) := by decide +kernel
theorem dX2_play_21 : decode cX2_play 21 = .ok (.ireturn, 1) := by decide +kernel
theorem dX2_play_22 : decode cX2_play 22 = .ok (.aload_n 0, 1) := by decide +kernel
theorem dX2_play_23 : decode cX2_play 23 = .ok (.iconst 2, 1) := by decide +kernel
theorem dX2_play_24 : decode cX2_play 24 = .ok (.aload_n 0, 1) := by decide +kernel
theorem dX2_play_25 : decode cX2_play 25 = .ok (.getfield 24, 3) := by decide +kernel
theorem dX2_play_28 : decode cX2_play 28 = .ok (.imul, 1) := by decide +kernel
theorem dX2_play_29 : decode cX2_play 29 = .ok (.iload_n 1, 1) := by decide +kernel
theorem dX2_play_30 : decode cX2_play 30 = .ok (.iadd, 1) := by decide +kernel
theorem dX2_play_31 : decode cX2_play 31 = .ok (.putfield 24, 3) := by decide +kernel
theorem dX2_play_34 : decode cX2_play 34 = .ok (.aload_n 0, 1) := by decide +kernel
theorem dX2_play_35 : decode cX2_play 35 = .ok (.dup, 1) := by decide +kernel
theorem dX2_play_36 : decode cX2_play 36 = .ok (.getfield 76, 3) := by decide +kernel
theorem dX2_play_39 : decode cX2_play 39 = .ok (.iconst 1, 1) := by decide +kernel
theorem dX2_play_40 : decode cX2_play 40 = .ok (.iadd, 1) := by decide +kernel
theorem dX2_play_41 : decode cX2_play 41 = .ok (.putfield 76, 3) := by decide +kernel
theorem dX2_play_44 : decode cX2_play 44 = .ok (.aload_n 0, 1) := by decide +kernel
theorem dX2_play_45 : decode cX2_play 45 = .ok (.getfield 76, 3) := by decide +kernel
theorem dX2_play_48 : decode cX2_play 48 = .ok (.iconst 1, 1) := by decide +kernel
theorem dX2_play_49 : decode cX2_play 49 = .ok (.isub, 1) := by decide +kernel
theorem dX2_play_50 : decode cX2_play 50 = .ok (.ireturn, 1) := by decide +kernel
theorem dX2_undo_0 : decode cX2_undo 0 = .ok (.aload_n 0, 1) := by decide +kernel
theorem dX2_undo_1 : decode cX2_undo 1 = .ok (.getfield 76, 3) := by decide +kernel
theorem dX2_undo_4 : decode cX2_undo 4 = .ok (.ifCond .ne 5, 3) := by decide +kernel
theorem dX2_undo_7 : decode cX2_undo 7 = .ok (.iconst 0, 1) := by decide +kernel
theorem dX2_undo_8 : decode cX2_undo 8 = .ok (.ireturn, 1) := by decide +kernel
theorem dX2_undo_9 : decode cX2_undo 9 = .ok (.aload_n 0, 1) := by decide +kernel
theorem dX2_undo_10 : decode cX2_undo 10 = .ok (.aload_n 0, 1) := by decide +kernel
theorem dX2_undo_11 : decode cX2_undo 11 = .ok (.getfield 24, 3) := by decide +kernel
theorem dX2_undo_14 : decode cX2_undo 14 = .ok (.iconst 2, 1) := by decide +kernel
theorem dX2_undo_15 : decode cX2_undo 15 = .ok (.idiv, 1) := by decide +kernel
theorem dX2_undo_16 : decode cX2_undo 16 = .ok (.putfield 24, 3) := by decide +kernel
theorem dX2_undo_19 : decode cX2_undo 19 = .ok (.aload_n 0, 1) := by decide +kernel
theorem dX2_undo_20 : decode cX2_undo 20 = .ok (.dup, 1) := by decide +kernel
theorem dX2_undo_21 : decode cX2_undo 21 = .ok (.getfield 76, 3) := by decide +kernel
theorem dX2_undo_24 : decode cX2_undo 24 = .ok (.iconst 1, 1) := by decide +kernel
theorem dX2_undo_25 : decode cX2_undo 25 = .ok (.isub, 1) := by decide +kernel
theorem dX2_undo_26 : decode cX2_undo 26 = .ok (.putfield 76, 3) := by decide +kernel
theorem dX2_undo_29 : decode cX2_undo 29 = .ok (.iconst 1, 1) := by decide +kernel
theorem dX2_undo_30 : decode cX2_undo 30 = .ok (.ireturn, 1) := by decide +kernel
theorem dX2_played_0 : decode cX2_played 0 = .ok (.aload_n 0, 1) := by decide +kernel
theorem dX2_played_1 : decode cX2_played 1 = .ok (.getfield 76, 3) := by decide +kernel
theorem dX2_played_4 : decode cX2_played 4 = .ok (.ireturn, 1) := by decide +kernel
theorem dX2_wins_0 : decode cX2_wins 0 = .ok (.aload_n 0, 1) := by decide +kernel
theorem dX2_wins_1 : decode cX2_wins 1 = .ok (.invokevirtual 79, 3) := by decide +kernel
theorem dX2_wins_4 : decode cX2_wins 4 = .ok (.aload_n 0, 1) := by decide +kernel
theorem dX2_wins_5 : decode cX2_wins 5 = .ok (.getfield 20, 3) := by decide +kernel
theorem dX2_wins_8 : decode cX2_wins 8 = .ok (.aload_n 0, 1) := by decide +kernel
theorem dX2_wins_9 : decode cX2_wins 9 = .ok (.getfield 24, 3) := by decide +kernel
theorem dX2_wins_12 : decode cX2_wins 12 = .ok (.baload, 1) := by decide +kernel
theorem dX2_wins_13 : decode cX2_wins 13 = .ok (.ireturn, 1) := by decide +kernel
theorem dX2_look_0 : decode cX2_look 0 = .ok (.aload_n 0, 1) := by decide +kernel
theorem dX2_look_1 : decode cX2_look 1 = .ok (.getfield 43, 3) := by decide +kernel
theorem dX2_look_4 : decode cX2_look 4 = .ok (.ifCond .eq 4, 3) := by decide +kernel
theorem dX2_look_7 : decode cX2_look 7 = .ok (.return_, 1) := by decide +kernel
theorem dX2_look_8 : decode cX2_look 8 = .ok (.aload_n 0, 1) := by decide +kernel
theorem dX2_look_9 : decode cX2_look 9 = .ok (.iconst (-1), 1) := by decide +kernel
theorem dX2_look_10 : decode cX2_look 10 = .ok (.putfield 16, 3) := by decide +kernel
theorem dX2_look_13 : decode cX2_look 13 = .ok (.aload_n 0, 1) := by decide +kernel
theorem dX2_look_14 : decode cX2_look 14 = .ok (.iconst 0, 1) := by decide +kernel
theorem dX2_look_15 : decode cX2_look 15 = .ok (.putfield 50, 3) := by decide +kernel
theorem dX2_look_18 : decode cX2_look 18 = .ok (.aload_n 0, 1) := by decide +kernel
theorem dX2_look_19 : decode cX2_look 19 = .ok (.invokevirtual 73, 3) := by decide +kernel
theorem dX2_look_22 : decode cX2_look 22 = .ok (.aload_n 0, 1) := by decide +kernel
theorem dX2_look_23 : decode cX2_look 23 = .ok (.iconst 1, 1) := by decide +kernel
theorem dX2_look_24 : decode cX2_look 24 = .ok (.putfield 43, 3) := by decide +kernel
theorem dX2_look_27 : decode cX2_look 27 = .ok (.return_, 1) := by decide +kernel
theorem dX2_fill_0 : decode cX2_fill 0 = .ok (.iconst 1, 1) := by decide +kernel
theorem dX2_fill_1 : decode cX2_fill 1 = .ok (.aload_n 0, 1) := by decide +kernel
theorem dX2_fill_2 : decode cX2_fill 2 = .ok (.getfield 30, 3) := by decide +kernel
theorem dX2_fill_5 : decode cX2_fill 5 = .ok (.ishl, 1) := by decide +kernel
theorem dX2_fill_6 : decode cX2_fill 6 = .ok (.istore_n 1, 1) := by decide +kernel
theorem dX2_fill_7 : decode cX2_fill 7 = .ok (.iload_n 1, 1) := by decide +kernel
theorem dX2_fill_8 : decode cX2_fill 8 = .ok (.iconst 2, 1) := by decide +kernel
theorem dX2_fill_9 : decode cX2_fill 9 = .ok (.aload_n 0, 1) := by decide +kernel
theorem dX2_fill_10 : decode cX2_fill 10 = .ok (.getfield 30, 3) := by decide +kernel
theorem dX2_fill_13 : decode cX2_fill 13 = .ok (.ishl, 1) := by decide +kernel
theorem dX2_fill_14 : decode cX2_fill 14 = .ok (.if_icmp .ge 24, 3) := by decide +kernel
theorem dX2_fill_17 : decode cX2_fill 17 = .ok (.aload_n 0, 1) := by decide +kernel
theorem dX2_fill_18 : decode cX2_fill 18 = .ok (.getfield 20, 3) := by decide +kernel
theorem dX2_fill_21 : decode cX2_fill 21 = .ok (.iload_n 1, 1) := by decide +kernel
theorem dX2_fill_22 : decode cX2_fill 22 = .ok (.aload_n 0, 1) := by decide +kernel
theorem dX2_fill_23 : decode cX2_fill 23 = .ok (.aload_n 0, 1) := by decide +kernel
theorem dX2_fill_24 : decode cX2_fill 24 = .ok (.iload_n 1, 1) := by decide +kernel
theorem dX2_fill_25 : decode cX2_fill 25 = .ok (.invokevirtual 63, 3) := by decide +kernel
theorem dX2_fill_28 : decode cX2_fill 28 = .ok (.invokevirtual 67, 3) := by decide +kernel
theorem dX2_fill_31 : decode cX2_fill 31 = .ok (.bastore, 1) := by decide +kernel
theorem dX2_fill_32 : decode cX2_fill 32 = .ok (.iinc 1 1, 3) := by decide +kernel
theorem dX2_fill_35 : decode cX2_fill 35 = .ok (.goto (-28), 3) := by decide +kernel
theorem dX2_fill_38 : decode cX2_fill 38 = .ok (.aload_n 0, 1) := by decide +kernel
theorem dX2_fill_39 : decode cX2_fill 39 = .ok (.getfield 30, 3) := by decide +kernel
theorem dX2_fill_42 : decode cX2_fill 42 = .ok (.iconst 1, 1) := by decide +kernel
theorem dX2_fill_43 : decode cX2_fill 43 = .ok (.isub, 1) := by decide +kernel
theorem dX2_fill_44 : decode cX2_fill 44 = .ok (.istore_n 1, 1) := by decide +kernel
theorem dX2_fill_45 : decode cX2_fill 45 = .ok (.iload_n 1, 1) := by decide +kernel
theorem dX2_fill_46 : decode cX2_fill 46 = .ok (.ifCond .lt 101, 3) := by decide +kernel
theorem dX2_fill_49 : decode cX2_fill 49 = .ok (.iconst 1, 1) := by decide +kernel
theorem dX2_fill_50 : decode cX2_fill 50 = .ok (.iload_n 1, 1) := by decide +kernel
theorem dX2_fill_51 : decode cX2_fill 51 = .ok (.ishl, 1) := by decide +kernel
theorem dX2_fill_52 : decode cX2_fill 52 = .ok (.istore_n 2, 1) := by decide +kernel
theorem dX2_fill_53 : decode cX2_fill 53 = .ok (.iload_n 2, 1) := by decide +kernel
theorem dX2_fill_54 : decode cX2_fill 54 = .ok (.iconst 2, 1) := by decide +kernel
theorem dX2_fill_55 : decode cX2_fill 55 = .ok (.iload_n 1, 1) := by decide +kernel
theorem dX2_fill_56 : decode cX2_fill 56 = .ok (.ishl, 1) := by decide +kernel
theorem dX2_fill_57 : decode cX2_fill 57 = .ok (.if_icmp .ge 84, 3) := by decide +kernel
theorem dX2_fill_60 : decode cX2_fill 60 = .ok (.aload_n 0, 1) := by decide +kernel
theorem dX2_fill_61 : decode cX2_fill 61 = .ok (.getfield 20, 3) := by decide +kernel
theorem dX2_fill_64 : decode cX2_fill 64 = .ok (.iload_n 2, 1) := by decide +kernel
theorem dX2_fill_65 : decode cX2_fill 65 = .ok (.aload_n 0, 1) := by decide +kernel
theorem dX2_fill_66 : decode cX2_fill 66 = .ok (.iload_n 1, 1) := by decide +kernel
theorem dX2_fill_67 : decode cX2_fill 67 = .ok (.invokevirtual 70, 3) := by decide +kernel
theorem dX2_fill_70 : decode cX2_fill 70 = .ok (.ifCond .eq 35, 3) := by decide +kernel
theorem dX2_fill_73 : decode cX2_fill 73 = .ok (.aload_n 0, 1) := by decide +kernel
theorem dX2_fill_74 : decode cX2_fill 74 = .ok (.getfield 20, 3) := by decide +kernel
theorem dX2_fill_77 : decode cX2_fill 77 = .ok (.iconst 2, 1) := by decide +kernel
theorem dX2_fill_78 : decode cX2_fill 78 = .ok (.iload_n 2, 1) := by decide +kernel
theorem dX2_fill_79 : decode cX2_fill 79 = .ok (.imul, 1) := by decide +kernel
theorem dX2_fill_80 : decode cX2_fill 80 = .ok (.baload, 1) := by decide +kernel
theorem dX2_fill_81 : decode cX2_fill 81 = .ok (.ifCond .eq 20, 3) := by decide +kernel
theorem dX2_fill_84 : decode cX2_fill 84 = .ok (.aload_n 0, 1) := by decide +kernel
theorem dX2_fill_85 : decode cX2_fill 85 = .ok (.getfield 20, 3) := by decide +kernel
theorem dX2_fill_88 : decode cX2_fill 88 = .ok (.iconst 2, 1) := by decide +kernel
theorem dX2_fill_89 : decode cX2_fill 89 = .ok (.iload_n 2, 1) := by decide +kernel
theorem dX2_fill_90 : decode cX2_fill 90 = .ok (.imul, 1) := by decide +kernel
theorem dX2_fill_91 : decode cX2_fill 91 = .ok (.iconst 1, 1) := by decide +kernel
theorem dX2_fill_92 : decode cX2_fill 92 = .ok (.iadd, 1) := by decide +kernel
theorem dX2_fill_93 : decode cX2_fill 93 = .ok (.baload, 1) := by decide +kernel
theorem dX2_fill_94 : decode cX2_fill 94 = .ok (.ifCond .eq 7, 3) := by decide +kernel
theorem dX2_fill_97 : decode cX2_fill 97 = .ok (.iconst 1, 1) := by decide +kernel
theorem dX2_fill_98 : decode cX2_fill 98 = .ok (.goto 36, 3) := by decide +kernel
theorem dX2_fill_101 : decode cX2_fill 101 = .ok (.iconst 0, 1) := by decide +kernel
theorem dX2_fill_102 : decode cX2_fill 102 = .ok (.goto 32, 3) := by decide +kernel
theorem dX2_fill_105 : decode cX2_fill 105 = .ok (.aload_n 0, 1) := by decide +kernel
theorem dX2_fill_106 : decode cX2_fill 106 = .ok (.getfield 20, 3) := by decide +kernel
theorem dX2_fill_109 : decode cX2_fill 109 = .ok (.iconst 2, 1) := by decide +kernel
theorem dX2_fill_110 : decode cX2_fill 110 = .ok (.iload_n 2, 1) := by decide +kernel
theorem dX2_fill_111 : decode cX2_fill 111 = .ok (.imul, 1) := by decide +kernel
theorem dX2_fill_112 : decode cX2_fill 112 = .ok (.baload, 1) := by decide +kernel
theorem dX2_fill_113 : decode cX2_fill 113 = .ok (.ifCond .ne 16, 3) := by decide +kernel
theorem dX2_fill_116 : decode cX2_fill 116 = .ok (.aload_n 0, 1) := by decide +kernel
theorem dX2_fill_117 : decode cX2_fill 117 = .ok (.getfield 20, 3) := by decide +kernel
theorem dX2_fill_120 : decode cX2_fill 120 = .ok (.iconst 2, 1) := by decide +kernel
theorem dX2_fill_121 : decode cX2_fill 121 = .ok (.iload_n 2, 1) := by decide +kernel
theorem dX2_fill_122 : decode cX2_fill 122 = .ok (.imul, 1) := by decide +kernel
theorem dX2_fill_123 : decode cX2_fill 123 = .ok (.iconst 1, 1) := by decide +kernel
theorem dX2_fill_124 : decode cX2_fill 124 = .ok (.iadd, 1) := by decide +kernel
theorem dX2_fill_125 : decode cX2_fill 125 = .ok (.baload, 1) := by decide +kernel
theorem dX2_fill_126 : decode cX2_fill 126 = .ok (.ifCond .eq 7, 3) := by decide +kernel
theorem dX2_fill_129 : decode cX2_fill 129 = .ok (.iconst 1, 1) := by decide +kernel
theorem dX2_fill_130 : decode cX2_fill 130 = .ok (.goto 4, 3) := by decide +kernel
theorem dX2_fill_133 : decode cX2_fill 133 = .ok (.iconst 0, 1) := by decide +kernel
theorem dX2_fill_134 : decode cX2_fill 134 = .ok (.bastore, 1) := by decide +kernel
theorem dX2_fill_135 : decode cX2_fill 135 = .ok (.iinc 2 1, 3) := by decide +kernel
theorem dX2_fill_138 : decode cX2_fill 138 = .ok (.goto (-85), 3) := by decide +kernel
theorem dX2_fill_141 : decode cX2_fill 141 = .ok (.iinc 1 (-1), 3) := by decide +kernel
theorem dX2_fill_144 : decode cX2_fill 144 = .ok (.goto (-99), 3) := by decide +kernel
theorem dX2_fill_147 : decode cX2_fill 147 = .ok (.return_, 1) := by decide +kernel
theorem dX2_onesAt_0 : decode cX2_onesAt 0 = .ok (.iconst 0, 1) := by decide +kernel
theorem dX2_onesAt_1 : decode cX2_onesAt 1 = .ok (.istore_n 2, 1) := by decide +kernel
theorem dX2_onesAt_2 : decode cX2_onesAt 2 = .ok (.iconst 0, 1) := by decide +kernel
theorem dX2_onesAt_3 : decode cX2_onesAt 3 = .ok (.istore_n 3, 1) := by decide +kernel
theorem dX2_onesAt_4 : decode cX2_onesAt 4 = .ok (.iload_n 3, 1) := by decide +kernel
theorem dX2_onesAt_5 : decode cX2_onesAt 5 = .ok (.aload_n 0, 1) := by decide +kernel
theorem dX2_onesAt_6 : decode cX2_onesAt 6 = .ok (.getfield 30, 3) := by decide +kernel
theorem dX2_onesAt_9 : decode cX2_onesAt 9 = .ok (.if_icmp .ge 35, 3) := by decide +kernel
theorem dX2_onesAt_12 : decode cX2_onesAt 12 = .ok (.iload_n 1, 1) := by decide +kernel
theorem dX2_onesAt_13 : decode cX2_onesAt 13 = .ok (.aload_n 0, 1) := by decide +kernel
theorem dX2_onesAt_14 : decode cX2_onesAt 14 = .ok (.getfield 30, 3) := by decide +kernel
theorem dX2_onesAt_17 : decode cX2_onesAt 17 = .ok (.iconst 1, 1) := by decide +kernel
theorem dX2_onesAt_18 : decode cX2_onesAt 18 = .ok (.isub, 1) := by decide +kernel
theorem dX2_onesAt_19 : decode cX2_onesAt 19 = .ok (.iload_n 3, 1) := by decide +kernel
theorem dX2_onesAt_20 : decode cX2_onesAt 20 = .ok (.isub, 1) := by decide +kernel
theorem dX2_onesAt_21 : decode cX2_onesAt 21 = .ok (.ishr, 1) := by decide +kernel
theorem dX2_onesAt_22 : decode cX2_onesAt 22 = .ok (.iconst 1, 1) := by decide +kernel
theorem dX2_onesAt_23 : decode cX2_onesAt 23 = .ok (.iand, 1) := by decide +kernel
theorem dX2_onesAt_24 : decode cX2_onesAt 24 = .ok (.iconst 1, 1) := by decide +kernel
theorem dX2_onesAt_25 : decode cX2_onesAt 25 = .ok (.if_icmp .ne 11, 3) := by decide +kernel
theorem dX2_onesAt_28 : decode cX2_onesAt 28 = .ok (.iload_n 2, 1) := by decide +kernel
theorem dX2_onesAt_29 : decode cX2_onesAt 29 = .ok (.iconst 1, 1) := by decide +kernel
theorem dX2_onesAt_30 : decode cX2_onesAt 30 = .ok (.iload_n 3, 1) := by decide +kernel
theorem dX2_onesAt_31 : decode cX2_onesAt 31 = .ok (.ishl, 1) := by decide +kernel
theorem dX2_onesAt_32 : decode cX2_onesAt 32 = .ok (.iadd, 1) := by decide +kernel
theorem dX2_onesAt_33 : decode cX2_onesAt 33 = .ok (.goto 4, 3) := by decide +kernel
theorem dX2_onesAt_36 : decode cX2_onesAt 36 = .ok (.iload_n 2, 1) := by decide +kernel
theorem dX2_onesAt_37 : decode cX2_onesAt 37 = .ok (.istore_n 2, 1) := by decide +kernel
theorem dX2_onesAt_38 : decode cX2_onesAt 38 = .ok (.iinc 3 1, 3) := by decide +kernel
theorem dX2_onesAt_41 : decode cX2_onesAt 41 = .ok (.goto (-37), 3) := by decide +kernel
theorem dX2_onesAt_44 : decode cX2_onesAt 44 = .ok (.iload_n 2, 1) := by decide +kernel
theorem dX2_onesAt_45 : decode cX2_onesAt 45 = .ok (.ireturn, 1) := by decide +kernel
theorem dX2_allHold_0 : decode cX2_allHold 0 = .ok (.aload_n 0, 1) := by decide +kernel
theorem dX2_allHold_1 : decode cX2_allHold 1 = .ok (.getfield 50, 3) := by decide +kernel
theorem dX2_allHold_4 : decode cX2_allHold 4 = .ok (.ifCond .eq 18, 3) := by decide +kernel
theorem dX2_allHold_7 : decode cX2_allHold 7 = .ok (.aload_n 0, 1) := by decide +kernel
theorem dX2_allHold_8 : decode cX2_allHold 8 = .ok (.getfield 53, 3) := by decide +kernel
theorem dX2_allHold_11 : decode cX2_allHold 11 = .ok (.aload_n 0, 1) := by decide +kernel
theorem dX2_allHold_12 : decode cX2_allHold 12 = .ok (.getfield 56, 3) := by decide +kernel
theorem dX2_allHold_15 : decode cX2_allHold 15 = .ok (.iload_n 1, 1) := by decide +kernel
theorem dX2_allHold_16 : decode cX2_allHold 16 = .ok (.invokestatic 59, 3) := by decide +kernel
theorem dX2_allHold_19 : decode cX2_allHold 19 = .ok (.ifCond .eq 7, 3) := by decide +kernel
theorem dX2_allHold_22 : decode cX2_allHold 22 = .ok (.iconst 1, 1) := by decide +kernel
theorem dX2_allHold_23 : decode cX2_allHold 23 = .ok (.goto 4, 3) := by decide +kernel
theorem dX2_allHold_26 : decode cX2_allHold 26 = .ok (.iconst 0, 1) := by decide +kernel
theorem dX2_allHold_27 : decode cX2_allHold 27 = .ok (.istore_n 2, 1) := by decide +kernel
theorem dX2_allHold_28 : decode cX2_allHold 28 = .ok (.iconst 0, 1) := by decide +kernel
theorem dX2_allHold_29 : decode cX2_allHold 29 = .ok (.istore_n 3, 1) := by decide +kernel
theorem dX2_allHold_30 : decode cX2_allHold 30 = .ok (.iload_n 3, 1) := by decide +kernel
theorem dX2_allHold_31 : decode cX2_allHold 31 = .ok (.aload_n 0, 1) := by decide +kernel
theorem dX2_allHold_32 : decode cX2_allHold 32 = .ok (.getfield 40, 3) := by decide +kernel
theorem dX2_allHold_35 : decode cX2_allHold 35 = .ok (.if_icmp .ge 46, 3) := by decide +kernel
theorem dX2_allHold_38 : decode cX2_allHold 38 = .ok (.iload_n 2, 1) := by decide +kernel
theorem dX2_allHold_39 : decode cX2_allHold 39 = .ok (.ifCond .eq 34, 3) := by decide +kernel
theorem dX2_allHold_42 : decode cX2_allHold 42 = .ok (.iload_n 3, 1) := by decide +kernel
theorem dX2_allHold_43 : decode cX2_allHold 43 = .ok (.aload_n 0, 1) := by decide +kernel
theorem dX2_allHold_44 : decode cX2_allHold 44 = .ok (.getfield 16, 3) := by decide +kernel
theorem dX2_allHold_47 : decode cX2_allHold 47 = .ok (.if_icmp .eq 22, 3) := by decide +kernel
theorem dX2_allHold_50 : decode cX2_allHold 50 = .ok (.aload_n 0, 1) := by decide +kernel
theorem dX2_allHold_51 : decode cX2_allHold 51 = .ok (.getfield 7, 3) := by decide +kernel
theorem dX2_allHold_54 : decode cX2_allHold 54 = .ok (.iload_n 3, 1) := by decide +kernel
theorem dX2_allHold_55 : decode cX2_allHold 55 = .ok (.iaload, 1) := by decide +kernel
theorem dX2_allHold_56 : decode cX2_allHold 56 = .ok (.aload_n 0, 1) := by decide +kernel
theorem dX2_allHold_57 : decode cX2_allHold 57 = .ok (.getfield 13, 3) := by decide +kernel
theorem dX2_allHold_60 : decode cX2_allHold 60 = .ok (.iload_n 3, 1) := by decide +kernel
theorem dX2_allHold_61 : decode cX2_allHold 61 = .ok (.iaload, 1) := by decide +kernel
theorem dX2_allHold_62 : decode cX2_allHold 62 = .ok (.iload_n 1, 1) := by decide +kernel
theorem dX2_allHold_63 : decode cX2_allHold 63 = .ok (.invokestatic 59, 3) := by decide +kernel
theorem dX2_allHold_66 : decode cX2_allHold 66 = .ok (.ifCond .eq 7, 3) := by decide +kernel
theorem dX2_allHold_69 : decode cX2_allHold 69 = .ok (.iconst 1, 1) := by decide +kernel
theorem dX2_allHold_70 : decode cX2_allHold 70 = .ok (.goto 4, 3) := by decide +kernel
theorem dX2_allHold_73 : decode cX2_allHold 73 = .ok (.iconst 0, 1) := by decide +kernel
theorem dX2_allHold_74 : decode cX2_allHold 74 = .ok (.istore_n 2, 1) := by decide +kernel
theorem dX2_allHold_75 : decode cX2_allHold 75 = .ok (.iinc 3 1, 3) := by decide +kernel
theorem dX2_allHold_78 : decode cX2_allHold 78 = .ok (.goto (-48), 3) := by decide +kernel
theorem dX2_allHold_81 : decode cX2_allHold 81 = .ok (.iload_n 2, 1) := by decide +kernel
theorem dX2_allHold_82 : decode cX2_allHold 82 = .ok (.ireturn, 1) := by decide +kernel
theorem dX2_holds_0 : decode cX2_holds 0 = .ok (.iload_n 0, 1) := by decide +kernel
theorem dX2_holds_1 : decode cX2_holds 1 = .ok (.iload_n 2, 1) := by decide +kernel
theorem dX2_holds_2 : decode cX2_holds 2 = .ok (.iand, 1) := by decide +kernel
theorem dX2_holds_3 : decode cX2_holds 3 = .ok (.ifCond .ne 11, 3) := by decide +kernel
theorem dX2_holds_6 : decode cX2_holds 6 = .ok (.iload_n 1, 1) := by decide +kernel
theorem dX2_holds_7 : decode cX2_holds 7 = .ok (.iload_n 2, 1) := by decide +kernel
theorem dX2_holds_8 : decode cX2_holds 8 = .ok (.iconst (-1), 1) := by decide +kernel
theorem dX2_holds_9 : decode cX2_holds 9 = .ok (.ixor, 1) := by decide +kernel
theorem dX2_holds_10 : decode cX2_holds 10 = .ok (.iand, 1) := by decide +kernel
theorem dX2_holds_11 : decode cX2_holds 11 = .ok (.ifCond .eq 7, 3) := by decide +kernel
theorem dX2_holds_14 : decode cX2_holds 14 = .ok (.iconst 1, 1) := by decide +kernel
theorem dX2_holds_15 : decode cX2_holds 15 = .ok (.goto 4, 3) := by decide +kernel
theorem dX2_holds_18 : decode cX2_holds 18 = .ok (.iconst 0, 1) := by decide +kernel
theorem dX2_holds_19 : decode cX2_holds 19 = .ok (.ireturn, 1) := by decide +kernel
theorem dX2_isAdams_0 : decode cX2_isAdams 0 = .ok (.aload_n 0, 1) := by decide +kernel
theorem dX2_isAdams_1 : decode cX2_isAdams 1 = .ok (.getfield 33, 3) := by decide +kernel
theorem dX2_isAdams_4 : decode cX2_isAdams 4 = .ok (.iload_n 1, 1) := by decide +kernel
theorem dX2_isAdams_5 : decode cX2_isAdams 5 = .ok (.ishr, 1) := by decide +kernel
theorem dX2_isAdams_6 : decode cX2_isAdams 6 = .ok (.iconst 1, 1) := by decide +kernel
theorem dX2_isAdams_7 : decode cX2_isAdams 7 = .ok (.iand, 1) := by decide +kernel
theorem dX2_isAdams_8 : decode cX2_isAdams 8 = .ok (.iconst 1, 1) := by decide +kernel
theorem dX2_isAdams_9 : decode cX2_isAdams 9 = .ok (.if_icmp .ne 7, 3) := by decide +kernel
theorem dX2_isAdams_12 : decode cX2_isAdams 12 = .ok (.iconst 1, 1) := by decide +kernel
theorem dX2_isAdams_13 : decode cX2_isAdams 13 = .ok (.goto 4, 3) := by decide +kernel
theorem dX2_isAdams_16 : decode cX2_isAdams 16 = .ok (.iconst 0, 1) := by decide +kernel
theorem dX2_isAdams_17 : decode cX2_isAdams 17 = .ok (.ireturn, 1) := by decide +kernel
theorem dX2_best_0 : decode cX2_best 0 = .ok (.aload_n 0, 1) := by decide +kernel
theorem dX2_best_1 : decode cX2_best 1 = .ok (.invokevirtual 79, 3) := by decide +kernel
theorem dX2_best_4 : decode cX2_best 4 = .ok (.aload_n 0, 1) := by decide +kernel
theorem dX2_best_5 : decode cX2_best 5 = .ok (.getfield 76, 3) := by decide +kernel
theorem dX2_best_8 : decode cX2_best 8 = .ok (.aload_n 0, 1) := by decide +kernel
theorem dX2_best_9 : decode cX2_best 9 = .ok (.getfield 30, 3) := by decide +kernel
theorem dX2_best_12 : decode cX2_best 12 = .ok (.if_icmp .ne 7, 3) := by decide +kernel
theorem dX2_best_15 : decode cX2_best 15 = .ok (.iconst (-1), 1) := by decide +kernel
theorem dX2_best_16 : decode cX2_best 16 = .ok (.goto 15, 3) := by decide +kernel
theorem dX2_best_19 : decode cX2_best 19 = .ok (.aload_n 0, 1) := by decide +kernel
theorem dX2_best_20 : decode cX2_best 20 = .ok (.aload_n 0, 1) := by decide +kernel
theorem dX2_best_21 : decode cX2_best 21 = .ok (.getfield 24, 3) := by decide +kernel
theorem dX2_best_24 : decode cX2_best 24 = .ok (.aload_n 0, 1) := by decide +kernel
theorem dX2_best_25 : decode cX2_best 25 = .ok (.getfield 76, 3) := by decide +kernel
theorem dX2_best_28 : decode cX2_best 28 = .ok (.invokevirtual 82, 3) := by decide +kernel
theorem dX2_best_31 : decode cX2_best 31 = .ok (.ireturn, 1) := by decide +kernel
theorem dX2_move_0 : decode cX2_move 0 = .ok (.aload_n 0, 1) := by decide +kernel
theorem dX2_move_1 : decode cX2_move 1 = .ok (.getfield 20, 3) := by decide +kernel
theorem dX2_move_4 : decode cX2_move 4 = .ok (.iconst 2, 1) := by decide +kernel
theorem dX2_move_5 : decode cX2_move 5 = .ok (.iload_n 1, 1) := by decide +kernel
theorem dX2_move_6 : decode cX2_move 6 = .ok (.imul, 1) := by decide +kernel
theorem dX2_move_7 : decode cX2_move 7 = .ok (.baload, 1) := by decide +kernel
theorem dX2_move_8 : decode cX2_move 8 = .ok (.aload_n 0, 1) := by decide +kernel
theorem dX2_move_9 : decode cX2_move 9 = .ok (.iload_n 2, 1) := by decide +kernel
theorem dX2_move_10 : decode cX2_move 10 = .ok (.invokevirtual 70, 3) := by decide +kernel
theorem dX2_move_13 : decode cX2_move 13 = .ok (.if_icmp .eq 7, 3) := by decide +kernel
theorem dX2_move_16 : decode cX2_move 16 = .ok (.iconst 1, 1) := by decide +kernel
theorem dX2_move_17 : decode cX2_move 17 = .ok (.goto 4, 3) := by decide +kernel
theorem dX2_move_20 : decode cX2_move 20 = .ok (.iconst 0, 1) := by decide +kernel
theorem dX2_move_21 : decode cX2_move 21 = .ok (.istore_n 3, 1) := by decide +kernel
theorem dX2_move_22 : decode cX2_move 22 = .ok (.aload_n 0, 1) := by decide +kernel
theorem dX2_move_23 : decode cX2_move 23 = .ok (.getfield 20, 3) := by decide +kernel
theorem dX2_move_26 : decode cX2_move 26 = .ok (.iconst 2, 1) := by decide +kernel
theorem dX2_move_27 : decode cX2_move 27 = .ok (.iload_n 1, 1) := by decide +kernel
theorem dX2_move_28 : decode cX2_move 28 = .ok (.imul, 1) := by decide +kernel
theorem dX2_move_29 : decode cX2_move 29 = .ok (.iconst 1, 1) := by decide +kernel
theorem dX2_move_30 : decode cX2_move 30 = .ok (.iadd, 1) := by decide +kernel
theorem dX2_move_31 : decode cX2_move 31 = .ok (.baload, 1) := by decide +kernel
theorem dX2_move_32 : decode cX2_move 32 = .ok (.aload_n 0, 1) := by decide +kernel
theorem dX2_move_33 : decode cX2_move 33 = .ok (.iload_n 2, 1) := by decide +kernel
theorem dX2_move_34 : decode cX2_move 34 = .ok (.invokevirtual 70, 3) := by decide +kernel
theorem dX2_move_37 : decode cX2_move 37 = .ok (.if_icmp .eq 7, 3) := by decide +kernel
theorem dX2_move_40 : decode cX2_move 40 = .ok (.iconst 1, 1) := by decide +kernel
theorem dX2_move_41 : decode cX2_move 41 = .ok (.goto 4, 3) := by decide +kernel
theorem dX2_move_44 : decode cX2_move 44 = .ok (.iconst 0, 1) := by decide +kernel
theorem dX2_move_45 : decode cX2_move 45 = .ok (.istore 4, 2) := by decide +kernel
theorem dX2_move_47 : decode cX2_move 47 = .ok (.iload_n 3, 1) := by decide +kernel
theorem dX2_move_48 : decode cX2_move 48 = .ok (.ifCond .ne 12, 3) := by decide +kernel
theorem dX2_move_51 : decode cX2_move 51 = .ok (.iload 4, 2) := by decide +kernel
theorem dX2_move_53 : decode cX2_move 53 = .ok (.ifCond .eq 7, 3) := by decide +kernel
theorem dX2_move_56 : decode cX2_move 56 = .ok (.iconst 1, 1) := by decide +kernel
theorem dX2_move_57 : decode cX2_move 57 = .ok (.goto 4, 3) := by decide +kernel
theorem dX2_move_60 : decode cX2_move 60 = .ok (.iconst 0, 1) := by decide +kernel
theorem dX2_move_61 : decode cX2_move 61 = .ok (.ireturn, 1) := by decide +kernel
theorem dX2_reply_0 : decode cX2_reply 0 = .ok (.aload_n 0, 1) := by decide +kernel
theorem dX2_reply_1 : decode cX2_reply 1 = .ok (.iload_n 1, 1) := by decide +kernel
theorem dX2_reply_2 : decode cX2_reply 2 = .ok (.iconst 0, 1) := by decide +kernel
theorem dX2_reply_3 : decode cX2_reply 3 = .ok (.iload_n 2, 1) := by decide +kernel
theorem dX2_reply_4 : decode cX2_reply 4 = .ok (.invokevirtual 86, 3) := by decide +kernel
theorem dX2_reply_7 : decode cX2_reply 7 = .ok (.ireturn, 1) := by decide +kernel
theorem dX2_led_0 : decode cX2_led 0 = .ok (.iload_n 1, 1) := by decide +kernel
theorem dX2_led_1 : decode cX2_led 1 = .ok (.ifCond .lt 11, 3) := by decide +kernel
theorem dX2_led_4 : decode cX2_led 4 = .ok (.iload_n 1, 1) := by decide +kernel
theorem dX2_led_5 : decode cX2_led 5 = .ok (.aload_n 0, 1) := by decide +kernel
theorem dX2_led_6 : decode cX2_led 6 = .ok (.getfield 30, 3) := by decide +kernel
theorem dX2_led_9 : decode cX2_led 9 = .ok (.if_icmp .lt 5, 3) := by decide +kernel
theorem dX2_led_12 : decode cX2_led 12 = .ok (.iconst (-1), 1) := by decide +kernel
theorem dX2_led_13 : decode cX2_led 13 = .ok (.ireturn, 1) := by decide +kernel
theorem dX2_led_14 : decode cX2_led 14 = .ok (.aload_n 0, 1) := by decide +kernel
theorem dX2_led_15 : decode cX2_led 15 = .ok (.invokevirtual 79, 3) := by decide +kernel
theorem dX2_led_18 : decode cX2_led 18 = .ok (.iconst 1, 1) := by decide +kernel
theorem dX2_led_19 : decode cX2_led 19 = .ok (.istore 4, 2) := by decide +kernel
theorem dX2_led_21 : decode cX2_led 21 = .ok (.iconst 0, 1) := by decide +kernel
theorem dX2_led_22 : decode cX2_led 22 = .ok (.istore 5, 2) := by decide +kernel
theorem dX2_led_24 : decode cX2_led 24 = .ok (.iconst 0, 1) := by decide +kernel
theorem dX2_led_25 : decode cX2_led 25 = .ok (.istore 6, 2) := by decide +kernel
theorem dX2_led_27 : decode cX2_led 27 = .ok (.iload 6, 2) := by decide +kernel
theorem dX2_led_29 : decode cX2_led 29 = .ok (.iload_n 1, 1) := by decide +kernel
theorem dX2_led_30 : decode cX2_led 30 = .ok (.if_icmp .gt 47, 3) := by decide +kernel
theorem dX2_led_33 : decode cX2_led 33 = .ok (.aload_n 0, 1) := by decide +kernel
theorem dX2_led_34 : decode cX2_led 34 = .ok (.iload 6, 2) := by decide +kernel
theorem dX2_led_36 : decode cX2_led 36 = .ok (.invokevirtual 70, 3) := by decide +kernel
theorem dX2_led_39 : decode cX2_led 39 = .ok (.iload_n 2, 1) := by decide +kernel
theorem dX2_led_40 : decode cX2_led 40 = .ok (.if_icmp .ne 14, 3) := by decide +kernel
theorem dX2_led_43 : decode cX2_led 43 = .ok (.aload_n 0, 1) := by decide +kernel
theorem dX2_led_44 : decode cX2_led 44 = .ok (.iload 4, 2) := by decide +kernel
theorem dX2_led_46 : decode cX2_led 46 = .ok (.iload 6, 2) := by decide +kernel
theorem dX2_led_48 : decode cX2_led 48 = .ok (.invokevirtual 82, 3) := by decide +kernel
theorem dX2_led_51 : decode cX2_led 51 = .ok (.goto 9, 3) := by decide +kernel
theorem dX2_led_54 : decode cX2_led 54 = .ok (.iload_n 3, 1) := by decide +kernel
theorem dX2_led_55 : decode cX2_led 55 = .ok (.iload 6, 2) := by decide +kernel
theorem dX2_led_57 : decode cX2_led 57 = .ok (.ishr, 1) := by decide +kernel
theorem dX2_led_58 : decode cX2_led 58 = .ok (.iconst 1, 1) := by decide +kernel
theorem dX2_led_59 : decode cX2_led 59 = .ok (.iand, 1) := by decide +kernel
theorem dX2_led_60 : decode cX2_led 60 = .ok (.istore 5, 2) := by decide +kernel
theorem dX2_led_62 : decode cX2_led 62 = .ok (.iconst 2, 1) := by decide +kernel
theorem dX2_led_63 : decode cX2_led 63 = .ok (.iload 4, 2) := by decide +kernel
theorem dX2_led_65 : decode cX2_led 65 = .ok (.imul, 1) := by decide +kernel
theorem dX2_led_66 : decode cX2_led 66 = .ok (.iload 5, 2) := by decide +kernel
theorem dX2_led_68 : decode cX2_led 68 = .ok (.iadd, 1) := by decide +kernel
theorem dX2_led_69 : decode cX2_led 69 = .ok (.istore 4, 2) := by decide +kernel
theorem dX2_led_71 : decode cX2_led 71 = .ok (.iinc 6 1, 3) := by decide +kernel
theorem dX2_led_74 : decode cX2_led 74 = .ok (.goto (-47), 3) := by decide +kernel
theorem dX2_led_77 : decode cX2_led 77 = .ok (.iload 5, 2) := by decide +kernel
theorem dX2_led_79 : decode cX2_led 79 = .ok (.ireturn, 1) := by decide +kernel
theorem dX2_answer_0 : decode cX2_answer 0 = .ok (.aload_n 0, 1) := by decide +kernel
theorem dX2_answer_1 : decode cX2_answer 1 = .ok (.iload_n 1, 1) := by decide +kernel
theorem dX2_answer_2 : decode cX2_answer 2 = .ok (.iconst 1, 1) := by decide +kernel
theorem dX2_answer_3 : decode cX2_answer 3 = .ok (.iload_n 2, 1) := by decide +kernel
theorem dX2_answer_4 : decode cX2_answer 4 = .ok (.invokevirtual 86, 3) := by decide +kernel
theorem dX2_answer_7 : decode cX2_answer 7 = .ok (.ireturn, 1) := by decide +kernel
theorem dX2_idle_0 : decode cX2_idle 0 = .ok (.aload_n 0, 1) := by decide +kernel
theorem dX2_idle_1 : decode cX2_idle 1 = .ok (.iload_n 1, 1) := by decide +kernel
theorem dX2_idle_2 : decode cX2_idle 2 = .ok (.invokevirtual 47, 3) := by decide +kernel
theorem dX2_idle_5 : decode cX2_idle 5 = .ok (.ifCond .eq 5, 3) := by decide +kernel
theorem dX2_idle_8 : decode cX2_idle 8 = .ok (.iconst 0, 1) := by decide +kernel
theorem dX2_idle_9 : decode cX2_idle 9 = .ok (.ireturn, 1) := by decide +kernel
theorem dX2_idle_10 : decode cX2_idle 10 = .ok (.aload_n 0, 1) := by decide +kernel
theorem dX2_idle_11 : decode cX2_idle 11 = .ok (.invokevirtual 79, 3) := by decide +kernel
theorem dX2_idle_14 : decode cX2_idle 14 = .ok (.aload_n 0, 1) := by decide +kernel
theorem dX2_idle_15 : decode cX2_idle 15 = .ok (.getfield 20, 3) := by decide +kernel
theorem dX2_idle_18 : decode cX2_idle 18 = .ok (.iconst 1, 1) := by decide +kernel
theorem dX2_idle_19 : decode cX2_idle 19 = .ok (.baload, 1) := by decide +kernel
theorem dX2_idle_20 : decode cX2_idle 20 = .ok (.istore_n 2, 1) := by decide +kernel
theorem dX2_idle_21 : decode cX2_idle 21 = .ok (.aload_n 0, 1) := by decide +kernel
theorem dX2_idle_22 : decode cX2_idle 22 = .ok (.iconst 0, 1) := by decide +kernel
theorem dX2_idle_23 : decode cX2_idle 23 = .ok (.putfield 43, 3) := by decide +kernel
theorem dX2_idle_26 : decode cX2_idle 26 = .ok (.aload_n 0, 1) := by decide +kernel
theorem dX2_idle_27 : decode cX2_idle 27 = .ok (.iload_n 1, 1) := by decide +kernel
theorem dX2_idle_28 : decode cX2_idle 28 = .ok (.putfield 16, 3) := by decide +kernel
theorem dX2_idle_31 : decode cX2_idle 31 = .ok (.aload_n 0, 1) := by decide +kernel
theorem dX2_idle_32 : decode cX2_idle 32 = .ok (.iconst 0, 1) := by decide +kernel
theorem dX2_idle_33 : decode cX2_idle 33 = .ok (.putfield 50, 3) := by decide +kernel
theorem dX2_idle_36 : decode cX2_idle 36 = .ok (.aload_n 0, 1) := by decide +kernel
theorem dX2_idle_37 : decode cX2_idle 37 = .ok (.invokevirtual 73, 3) := by decide +kernel
theorem dX2_idle_40 : decode cX2_idle 40 = .ok (.aload_n 0, 1) := by decide +kernel
theorem dX2_idle_41 : decode cX2_idle 41 = .ok (.getfield 20, 3) := by decide +kernel
theorem dX2_idle_44 : decode cX2_idle 44 = .ok (.iconst 1, 1) := by decide +kernel
theorem dX2_idle_45 : decode cX2_idle 45 = .ok (.baload, 1) := by decide +kernel
theorem dX2_idle_46 : decode cX2_idle 46 = .ok (.iload_n 2, 1) := by decide +kernel
theorem dX2_idle_47 : decode cX2_idle 47 = .ok (.if_icmp .ne 7, 3) := by decide +kernel
theorem dX2_idle_50 : decode cX2_idle 50 = .ok (.iconst 1, 1) := by decide +kernel
theorem dX2_idle_51 : decode cX2_idle 51 = .ok (.goto 4, 3) := by decide +kernel
theorem dX2_idle_54 : decode cX2_idle 54 = .ok (.iconst 0, 1) := by decide +kernel
theorem dX2_idle_55 : decode cX2_idle 55 = .ok (.ireturn, 1) := by decide +kernel
theorem dX2_harmless_0 : decode cX2_harmless 0 = .ok (.aload_n 0, 1) := by decide +kernel
theorem dX2_harmless_1 : decode cX2_harmless 1 = .ok (.iload_n 1, 1) := by decide +kernel
theorem dX2_harmless_2 : decode cX2_harmless 2 = .ok (.invokevirtual 36, 3) := by decide +kernel
theorem dX2_harmless_5 : decode cX2_harmless 5 = .ok (.ifCond .ne 11, 3) := by decide +kernel
theorem dX2_harmless_8 : decode cX2_harmless 8 = .ok (.aload_n 0, 1) := by decide +kernel
theorem dX2_harmless_9 : decode cX2_harmless 9 = .ok (.iload_n 2, 1) := by decide +kernel
theorem dX2_harmless_10 : decode cX2_harmless 10 = .ok (.invokevirtual 36, 3) := by decide +kernel
theorem dX2_harmless_13 : decode cX2_harmless 13 = .ok (.ifCond .eq 5, 3) := by decide +kernel
theorem dX2_harmless_16 : decode cX2_harmless 16 = .ok (.iconst 0, 1) := by decide +kernel
theorem dX2_harmless_17 : decode cX2_harmless 17 = .ok (.ireturn, 1) := by decide +kernel
theorem dX2_harmless_18 : decode cX2_harmless 18 = .ok (.aload_n 0, 1) := by decide +kernel
theorem dX2_harmless_19 : decode cX2_harmless 19 = .ok (.invokevirtual 79, 3) := by decide +kernel
theorem dX2_harmless_22 : decode cX2_harmless 22 = .ok (.aload_n 0, 1) := by decide +kernel
theorem dX2_harmless_23 : decode cX2_harmless 23 = .ok (.getfield 20, 3) := by decide +kernel
theorem dX2_harmless_26 : decode cX2_harmless 26 = .ok (.iconst 1, 1) := by decide +kernel
theorem dX2_harmless_27 : decode cX2_harmless 27 = .ok (.baload, 1) := by decide +kernel
theorem dX2_harmless_28 : decode cX2_harmless 28 = .ok (.istore_n 3, 1) := by decide +kernel
theorem dX2_harmless_29 : decode cX2_harmless 29 = .ok (.aload_n 0, 1) := by decide +kernel
theorem dX2_harmless_30 : decode cX2_harmless 30 = .ok (.iconst 0, 1) := by decide +kernel
theorem dX2_harmless_31 : decode cX2_harmless 31 = .ok (.putfield 43, 3) := by decide +kernel
theorem dX2_harmless_34 : decode cX2_harmless 34 = .ok (.aload_n 0, 1) := by decide +kernel
theorem dX2_harmless_35 : decode cX2_harmless 35 = .ok (.iconst (-1), 1) := by decide +kernel
theorem dX2_harmless_36 : decode cX2_harmless 36 = .ok (.putfield 16, 3) := by decide +kernel
theorem dX2_harmless_39 : decode cX2_harmless 39 = .ok (.aload_n 0, 1) := by decide +kernel
theorem dX2_harmless_40 : decode cX2_harmless 40 = .ok (.iconst 1, 1) := by decide +kernel
theorem dX2_harmless_41 : decode cX2_harmless 41 = .ok (.putfield 50, 3) := by decide +kernel
theorem dX2_harmless_44 : decode cX2_harmless 44 = .ok (.aload_n 0, 1) := by decide +kernel
theorem dX2_harmless_45 : decode cX2_harmless 45 = .ok (.iload_n 1, 1) := by decide +kernel
theorem dX2_harmless_46 : decode cX2_harmless 46 = .ok (.putfield 53, 3) := by decide +kernel
theorem dX2_harmless_49 : decode cX2_harmless 49 = .ok (.aload_n 0, 1) := by decide +kernel
theorem dX2_harmless_50 : decode cX2_harmless 50 = .ok (.iload_n 2, 1) := by decide +kernel
theorem dX2_harmless_51 : decode cX2_harmless 51 = .ok (.putfield 56, 3) := by decide +kernel
theorem dX2_harmless_54 : decode cX2_harmless 54 = .ok (.aload_n 0, 1) := by decide +kernel
theorem dX2_harmless_55 : decode cX2_harmless 55 = .ok (.invokevirtual 73, 3) := by decide +kernel
theorem dX2_harmless_58 : decode cX2_harmless 58 = .ok (.aload_n 0, 1) := by decide +kernel
theorem dX2_harmless_59 : decode cX2_harmless 59 = .ok (.getfield 20, 3) := by decide +kernel
theorem dX2_harmless_62 : decode cX2_harmless 62 = .ok (.iconst 1, 1) := by decide +kernel
theorem dX2_harmless_63 : decode cX2_harmless 63 = .ok (.baload, 1) := by decide +kernel
theorem dX2_harmless_64 : decode cX2_harmless 64 = .ok (.iload_n 3, 1) := by decide +kernel
theorem dX2_harmless_65 : decode cX2_harmless 65 = .ok (.if_icmp .ne 7, 3) := by decide +kernel
theorem dX2_harmless_68 : decode cX2_harmless 68 = .ok (.iconst 1, 1) := by decide +kernel
theorem dX2_harmless_69 : decode cX2_harmless 69 = .ok (.goto 4, 3) := by decide +kernel
theorem dX2_harmless_72 : decode cX2_harmless 72 = .ok (.iconst 0, 1) := by decide +kernel
theorem dX2_harmless_73 : decode cX2_harmless 73 = .ok (.ireturn, 1) := by decide +kernel
theorem dX2_models_0 : decode cX2_models 0 = .ok (.aload_n 0, 1) := by decide +kernel
theorem dX2_models_1 : decode cX2_models 1 = .ok (.invokevirtual 79, 3) := by decide +kernel
theorem dX2_models_4 : decode cX2_models 4 = .ok (.iconst 0, 1) := by decide +kernel
theorem dX2_models_5 : decode cX2_models 5 = .ok (.istore_n 1, 1) := by decide +kernel
theorem dX2_models_6 : decode cX2_models 6 = .ok (.iconst 1, 1) := by decide +kernel
theorem dX2_models_7 : decode cX2_models 7 = .ok (.aload_n 0, 1) := by decide +kernel
theorem dX2_models_8 : decode cX2_models 8 = .ok (.getfield 30, 3) := by decide +kernel
theorem dX2_models_11 : decode cX2_models 11 = .ok (.ishl, 1) := by decide +kernel
theorem dX2_models_12 : decode cX2_models 12 = .ok (.istore_n 2, 1) := by decide +kernel
theorem dX2_models_13 : decode cX2_models 13 = .ok (.iload_n 2, 1) := by decide +kernel
theorem dX2_models_14 : decode cX2_models 14 = .ok (.iconst 2, 1) := by decide +kernel
theorem dX2_models_15 : decode cX2_models 15 = .ok (.aload_n 0, 1) := by decide +kernel
theorem dX2_models_16 : decode cX2_models 16 = .ok (.getfield 30, 3) := by decide +kernel
theorem dX2_models_19 : decode cX2_models 19 = .ok (.ishl, 1) := by decide +kernel
theorem dX2_models_20 : decode cX2_models 20 = .ok (.if_icmp .ge 26, 3) := by decide +kernel
theorem dX2_models_23 : decode cX2_models 23 = .ok (.aload_n 0, 1) := by decide +kernel
theorem dX2_models_24 : decode cX2_models 24 = .ok (.getfield 20, 3) := by decide +kernel
theorem dX2_models_27 : decode cX2_models 27 = .ok (.iload_n 2, 1) := by decide +kernel
theorem dX2_models_28 : decode cX2_models 28 = .ok (.baload, 1) := by decide +kernel
theorem dX2_models_29 : decode cX2_models 29 = .ok (.ifCond .eq 9, 3) := by decide +kernel
theorem dX2_models_32 : decode cX2_models 32 = .ok (.iload_n 1, 1) := by decide +kernel
theorem dX2_models_33 : decode cX2_models 33 = .ok (.iconst 1, 1) := by decide +kernel
theorem dX2_models_34 : decode cX2_models 34 = .ok (.iadd, 1) := by decide +kernel
theorem dX2_models_35 : decode cX2_models 35 = .ok (.goto 4, 3) := by decide +kernel
theorem dX2_models_38 : decode cX2_models 38 = .ok (.iload_n 1, 1) := by decide +kernel
theorem dX2_models_39 : decode cX2_models 39 = .ok (.istore_n 1, 1) := by decide +kernel
theorem dX2_models_40 : decode cX2_models 40 = .ok (.iinc 2 1, 3) := by decide +kernel
theorem dX2_models_43 : decode cX2_models 43 = .ok (.goto (-30), 3) := by decide +kernel
theorem dX2_models_46 : decode cX2_models 46 = .ok (.iload_n 1, 1) := by decide +kernel
theorem dX2_models_47 : decode cX2_models 47 = .ok (.ireturn, 1) := by decide +kernel
theorem dX2_claim_0 : decode cX2_claim 0 = .ok (.aload_n 0, 1) := by decide +kernel
theorem dX2_claim_1 : decode cX2_claim 1 = .ok (.iload_n 1, 1) := by decide +kernel
theorem dX2_claim_2 : decode cX2_claim 2 = .ok (.invokevirtual 90, 3) := by decide +kernel
theorem dX2_claim_5 : decode cX2_claim 5 = .ok (.ifCond .eq 5, 3) := by decide +kernel
theorem dX2_claim_8 : decode cX2_claim 8 = .ok (.iconst 0, 1) := by decide +kernel
theorem dX2_claim_9 : decode cX2_claim 9 = .ok (.ireturn, 1) := by decide +kernel
theorem dX2_claim_10 : decode cX2_claim 10 = .ok (.aload_n 0, 1) := by decide +kernel
theorem dX2_claim_11 : decode cX2_claim 11 = .ok (.getfield 27, 3) := by decide +kernel
theorem dX2_claim_14 : decode cX2_claim 14 = .ok (.iload_n 1, 1) := by decide +kernel
theorem dX2_claim_15 : decode cX2_claim 15 = .ok (.iload_n 2, 1) := by decide +kernel
theorem dX2_claim_16 : decode cX2_claim 16 = .ok (.iastore, 1) := by decide +kernel
theorem dX2_claim_17 : decode cX2_claim 17 = .ok (.iconst 1, 1) := by decide +kernel
theorem dX2_claim_18 : decode cX2_claim 18 = .ok (.ireturn, 1) := by decide +kernel
theorem dX2_noEves_0 : decode cX2_noEves 0 = .ok (.iload_n 1, 1) := by decide +kernel
theorem dX2_noEves_1 : decode cX2_noEves 1 = .ok (.ifCond .lt 19, 3) := by decide +kernel
theorem dX2_noEves_4 : decode cX2_noEves 4 = .ok (.iload_n 1, 1) := by decide +kernel
theorem dX2_noEves_5 : decode cX2_noEves 5 = .ok (.aload_n 0, 1) := by decide +kernel
theorem dX2_noEves_6 : decode cX2_noEves 6 = .ok (.getfield 30, 3) := by decide +kernel
theorem dX2_noEves_9 : decode cX2_noEves 9 = .ok (.if_icmp .ge 11, 3) := by decide +kernel
theorem dX2_noEves_12 : decode cX2_noEves 12 = .ok (.aload_n 0, 1) := by decide +kernel
theorem dX2_noEves_13 : decode cX2_noEves 13 = .ok (.iload_n 1, 1) := by decide +kernel
theorem dX2_noEves_14 : decode cX2_noEves 14 = .ok (.invokevirtual 70, 3) := by decide +kernel
theorem dX2_noEves_17 : decode cX2_noEves 17 = .ok (.ifCond .eq 7, 3) := by decide +kernel
theorem dX2_noEves_20 : decode cX2_noEves 20 = .ok (.iconst 1, 1) := by decide +kernel
theorem dX2_noEves_21 : decode cX2_noEves 21 = .ok (.goto 4, 3) := by decide +kernel
theorem dX2_noEves_24 : decode cX2_noEves 24 = .ok (.iconst 0, 1) := by decide +kernel
theorem dX2_noEves_25 : decode cX2_noEves 25 = .ok (.ireturn, 1) := by decide +kernel
theorem dX2_claimed_0 : decode cX2_claimed 0 = .ok (.aload_n 0, 1) := by decide +kernel
theorem dX2_claimed_1 : decode cX2_claimed 1 = .ok (.iload_n 1, 1) := by decide +kernel
theorem dX2_claimed_2 : decode cX2_claimed 2 = .ok (.invokevirtual 90, 3) := by decide +kernel
theorem dX2_claimed_5 : decode cX2_claimed 5 = .ok (.ifCond .ne 18, 3) := by decide +kernel
theorem dX2_claimed_8 : decode cX2_claimed 8 = .ok (.iload_n 2, 1) := by decide +kernel
theorem dX2_claimed_9 : decode cX2_claimed 9 = .ok (.ifCond .lt 14, 3) := by decide +kernel
theorem dX2_claimed_12 : decode cX2_claimed 12 = .ok (.iload_n 2, 1) := by decide +kernel
theorem dX2_claimed_13 : decode cX2_claimed 13 = .ok (.iconst 1, 1) := by decide +kernel
theorem dX2_claimed_14 : decode cX2_claimed 14 = .ok (.aload_n 0, 1) := by decide +kernel
theorem dX2_claimed_15 : decode cX2_claimed 15 = .ok (.iload_n 1, 1) := by decide +kernel
theorem dX2_claimed_16 : decode cX2_claimed 16 = .ok (.invokevirtual 93, 3) := by decide +kernel
theorem dX2_claimed_19 : decode cX2_claimed 19 = .ok (.ishl, 1) := by decide +kernel
theorem dX2_claimed_20 : decode cX2_claimed 20 = .ok (.if_icmp .lt 5, 3) := by decide +kernel
theorem dX2_claimed_23 : decode cX2_claimed 23 = .ok (.iconst 0, 1) := by decide +kernel
