theorem dX1_init_0 : decode cX1_init 0 = .ok (.aload_n 0, 1) := by decide +kernel
theorem dX1_init_1 : decode cX1_init 1 = .ok (.invokespecial 1, 3) := by decide +kernel
theorem dX1_init_4 : decode cX1_init 4 = .ok (.aload_n 0, 1) := by decide +kernel
theorem dX1_init_5 : decode cX1_init 5 = .ok (.iconst 1, 1) := by decide +kernel
theorem dX1_init_6 : decode cX1_init 6 = .ok (.bipush 10, 2) := by decide +kernel
theorem dX1_init_8 : decode cX1_init 8 = .ok (.iload_n 1, 1) := by decide +kernel
theorem dX1_init_9 : decode cX1_init 9 = .ok (.invokestatic 9, 3) := by decide +kernel
theorem dX1_init_12 : decode cX1_init 12 = .ok (.invokestatic 15, 3) := by decide +kernel
theorem dX1_init_15 : decode cX1_init 15 = .ok (.putfield 18, 3) := by decide +kernel
theorem dX1_init_18 : decode cX1_init 18 = .ok (.iconst 1, 1) := by decide +kernel
theorem dX1_init_19 : decode cX1_init 19 = .ok (.aload_n 0, 1) := by decide +kernel
theorem dX1_init_20 : decode cX1_init 20 = .ok (.getfield 18, 3) := by decide +kernel
theorem dX1_init_23 : decode cX1_init 23 = .ok (.ishl, 1) := by decide +kernel
theorem dX1_init_24 : decode cX1_init 24 = .ok (.iconst 1, 1) := by decide +kernel
theorem dX1_init_25 : decode cX1_init 25 = .ok (.isub, 1) := by decide +kernel
theorem dX1_init_26 : decode cX1_init 26 = .ok (.istore_n 3, 1) := by decide +kernel
theorem dX1_init_27 : decode cX1_init 27 = .ok (.aload_n 0, 1) := by decide +kernel
theorem dX1_init_28 : decode cX1_init 28 = .ok (.iload_n 2, 1) := by decide +kernel
theorem dX1_init_29 : decode cX1_init 29 = .ok (.iload_n 3, 1) := by decide +kernel
theorem dX1_init_30 : decode cX1_init 30 = .ok (.iand, 1) := by decide +kernel
theorem dX1_init_31 : decode cX1_init 31 = .ok (.iconst 5, 1) := by decide +kernel
theorem dX1_init_32 : decode cX1_init 32 = .ok (.invokestatic 22, 3) := by decide +kernel
theorem dX1_init_35 : decode cX1_init 35 = .ok (.putfield 25, 3) := by decide +kernel
theorem dX1_init_38 : decode cX1_init 38 = .ok (.aload_n 0, 1) := by decide +kernel
theorem dX1_init_39 : decode cX1_init 39 = .ok (.iload_n 3, 1) := by decide +kernel
theorem dX1_init_40 : decode cX1_init 40 = .ok (.aload_n 0, 1) := by decide +kernel
theorem dX1_init_41 : decode cX1_init 41 = .ok (.getfield 25, 3) := by decide +kernel
theorem dX1_init_44 : decode cX1_init 44 = .ok (.iconst (-1), 1) := by decide +kernel
theorem dX1_init_45 : decode cX1_init 45 = .ok (.ixor, 1) := by decide +kernel
theorem dX1_init_46 : decode cX1_init 46 = .ok (.iand, 1) := by decide +kernel
theorem dX1_init_47 : decode cX1_init 47 = .ok (.putfield 28, 3) := by decide +kernel
theorem dX1_init_50 : decode cX1_init 50 = .ok (.aload_n 0, 1) := by decide +kernel
theorem dX1_init_51 : decode cX1_init 51 = .ok (.new 31, 3) := by decide +kernel
theorem dX1_init_54 : decode cX1_init 54 = .ok (.dup, 1) := by decide +kernel
theorem dX1_init_55 : decode cX1_init 55 = .ok (.aload_n 0, 1) := by decide +kernel
theorem dX1_init_56 : decode cX1_init 56 = .ok (.getfield 18, 3) := by decide +kernel
theorem dX1_init_59 : decode cX1_init 59 = .ok (.aload_n 0, 1) := by decide +kernel
theorem dX1_init_60 : decode cX1_init 60 = .ok (.getfield 25, 3) := by decide +kernel
theorem dX1_init_63 : decode cX1_init 63 = .ok (.invokespecial 33, 3) := by decide +kernel
theorem dX1_init_66 : decode cX1_init 66 = .ok (.putfield 36, 3) := by decide +kernel
theorem dX1_init_69 : decode cX1_init 69 = .ok (.aload_n 0, 1) := by decide +kernel
theorem dX1_init_70 : decode cX1_init 70 = .ok (.bipush 24, 2) := by decide +kernel
theorem dX1_init_72 : decode cX1_init 72 = .ok (.newarray .int, 2) := by decide +kernel
theorem dX1_init_74 : decode cX1_init 74 = .ok (.putfield 40, 3) := by decide +kernel
theorem dX1_init_77 : decode cX1_init 77 = .ok (.aload_n 0, 1) := by decide +kernel
theorem dX1_init_78 : decode cX1_init 78 = .ok (.bipush 24, 2) := by decide +kernel
theorem dX1_init_80 : decode cX1_init 80 = .ok (.newarray .int, 2) := by decide +kernel
theorem dX1_init_82 : decode cX1_init 82 = .ok (.putfield 44, 3) := by decide +kernel
theorem dX1_init_85 : decode cX1_init 85 = .ok (.aload_n 0, 1) := by decide +kernel
theorem dX1_init_86 : decode cX1_init 86 = .ok (.aload_n 0, 1) := by decide +kernel
theorem dX1_init_87 : decode cX1_init 87 = .ok (.getfield 18, 3) := by decide +kernel
theorem dX1_init_90 : decode cX1_init 90 = .ok (.newarray .int, 2) := by decide +kernel
theorem dX1_init_92 : decode cX1_init 92 = .ok (.putfield 47, 3) := by decide +kernel
theorem dX1_init_95 : decode cX1_init 95 = .ok (.return_, 1) := by decide +kernel
theorem dX1_firstOf_0 : decode cX1_firstOf 0 = .ok (.iconst 0, 1) := by decide +kernel
theorem dX1_firstOf_1 : decode cX1_firstOf 1 = .ok (.istore_n 2, 1) := by decide +kernel
theorem dX1_firstOf_2 : decode cX1_firstOf 2 = .ok (.iconst 0, 1) := by decide +kernel
theorem dX1_firstOf_3 : decode cX1_firstOf 3 = .ok (.istore_n 3, 1) := by decide +kernel
theorem dX1_firstOf_4 : decode cX1_firstOf 4 = .ok (.iconst 0, 1) := by decide +kernel
theorem dX1_firstOf_5 : decode cX1_firstOf 5 = .ok (.istore 4, 2) := by decide +kernel
theorem dX1_firstOf_7 : decode cX1_firstOf 7 = .ok (.iload 4, 2) := by decide +kernel
theorem dX1_firstOf_9 : decode cX1_firstOf 9 = .ok (.bipush 10, 2) := by decide +kernel
theorem dX1_firstOf_11 : decode cX1_firstOf 11 = .ok (.if_icmp .ge 34, 3) := by decide +kernel
theorem dX1_firstOf_14 : decode cX1_firstOf 14 = .ok (.iload_n 3, 1) := by decide +kernel
theorem dX1_firstOf_15 : decode cX1_firstOf 15 = .ok (.iload_n 1, 1) := by decide +kernel
theorem dX1_firstOf_16 : decode cX1_firstOf 16 = .ok (.if_icmp .ge 29, 3) := by decide +kernel
theorem dX1_firstOf_19 : decode cX1_firstOf 19 = .ok (.iload_n 0, 1) := by decide +kernel
theorem dX1_firstOf_20 : decode cX1_firstOf 20 = .ok (.iload 4, 2) := by decide +kernel
theorem dX1_firstOf_22 : decode cX1_firstOf 22 = .ok (.invokestatic 83, 3) := by decide +kernel
theorem dX1_firstOf_25 : decode cX1_firstOf 25 = .ok (.iconst 1, 1) := by decide +kernel
theorem dX1_firstOf_26 : decode cX1_firstOf 26 = .ok (.if_icmp .ne 13, 3) := by decide +kernel
theorem dX1_firstOf_29 : decode cX1_firstOf 29 = .ok (.iload_n 2, 1) := by decide +kernel
theorem dX1_firstOf_30 : decode cX1_firstOf 30 = .ok (.iconst 1, 1) := by decide +kernel
theorem dX1_firstOf_31 : decode cX1_firstOf 31 = .ok (.iload 4, 2) := by decide +kernel
theorem dX1_firstOf_33 : decode cX1_firstOf 33 = .ok (.ishl, 1) := by decide +kernel
theorem dX1_firstOf_34 : decode cX1_firstOf 34 = .ok (.ior, 1) := by decide +kernel
theorem dX1_firstOf_35 : decode cX1_firstOf 35 = .ok (.istore_n 2, 1) := by decide +kernel
theorem dX1_firstOf_36 : decode cX1_firstOf 36 = .ok (.iinc 3 1, 3) := by decide +kernel
theorem dX1_firstOf_39 : decode cX1_firstOf 39 = .ok (.iinc 4 1, 3) := by decide +kernel
theorem dX1_firstOf_42 : decode cX1_firstOf 42 = .ok (.goto (-35), 3) := by decide +kernel
theorem dX1_firstOf_45 : decode cX1_firstOf 45 = .ok (.iload_n 2, 1) := by decide +kernel
theorem dX1_firstOf_46 : decode cX1_firstOf 46 = .ok (.ireturn, 1) := by decide +kernel
theorem dX1_bit_0 : decode cX1_bit 0 = .ok (.iload_n 0, 1) := by decide +kernel
theorem dX1_bit_1 : decode cX1_bit 1 = .ok (.iload_n 1, 1) := by decide +kernel
theorem dX1_bit_2 : decode cX1_bit 2 = .ok (.iushr, 1) := by decide +kernel
theorem dX1_bit_3 : decode cX1_bit 3 = .ok (.iconst 1, 1) := by decide +kernel
theorem dX1_bit_4 : decode cX1_bit 4 = .ok (.iand, 1) := by decide +kernel
theorem dX1_bit_5 : decode cX1_bit 5 = .ok (.ireturn, 1) := by decide +kernel
theorem dX0_init_0 : decode cX0_init 0 = .ok (.aload_n 0, 1) := by decide +kernel
theorem dX0_init_1 : decode cX0_init 1 = .ok (.invokespecial 1, 3) := by decide +kernel
theorem dX0_init_4 : decode cX0_init 4 = .ok (.aload_n 0, 1) := by decide +kernel
theorem dX0_init_5 : decode cX0_init 5 = .ok (.iload_n 1, 1) := by decide +kernel
theorem dX0_init_6 : decode cX0_init 6 = .ok (.putfield 7, 3) := by decide +kernel
theorem dX0_init_9 : decode cX0_init 9 = .ok (.aload_n 0, 1) := by decide +kernel
theorem dX0_init_10 : decode cX0_init 10 = .ok (.iload_n 2, 1) := by decide +kernel
theorem dX0_init_11 : decode cX0_init 11 = .ok (.putfield 13, 3) := by decide +kernel
theorem dX0_init_14 : decode cX0_init 14 = .ok (.aload_n 0, 1) := by decide +kernel
theorem dX0_init_15 : decode cX0_init 15 = .ok (.iconst 1, 1) := by decide +kernel
theorem dX0_init_16 : decode cX0_init 16 = .ok (.iload_n 1, 1) := by decide +kernel
theorem dX0_init_17 : decode cX0_init 17 = .ok (.ishl, 1) := by decide +kernel
theorem dX0_init_18 : decode cX0_init 18 = .ok (.newarray .int, 2) := by decide +kernel
theorem dX0_init_20 : decode cX0_init 20 = .ok (.putfield 16, 3) := by decide +kernel
theorem dX0_init_23 : decode cX0_init 23 = .ok (.aload_n 0, 1) := by decide +kernel
theorem dX0_init_24 : decode cX0_init 24 = .ok (.iconst 2, 1) := by decide +kernel
theorem dX0_init_25 : decode cX0_init 25 = .ok (.iload_n 1, 1) := by decide +kernel
theorem dX0_init_26 : decode cX0_init 26 = .ok (.ishl, 1) := by decide +kernel
theorem dX0_init_27 : decode cX0_init 27 = .ok (.newarray .boolean, 2) := by decide +kernel
theorem dX0_init_29 : decode cX0_init 29 = .ok (.putfield 20, 3) := by decide +kernel
theorem dX0_init_32 : decode cX0_init 32 = .ok (.aload_n 0, 1) := by decide +kernel
theorem dX0_init_33 : decode cX0_init 33 = .ok (.invokevirtual 24, 3) := by decide +kernel
theorem dX0_init_36 : decode cX0_init 36 = .ok (.return_, 1) := by decide +kernel
theorem dX0_judgeAll_0 : decode cX0_judgeAll 0 = .ok (.iconst 0, 1) := by decide +kernel
theorem dX0_judgeAll_1 : decode cX0_judgeAll 1 = .ok (.istore_n 1, 1) := by decide +kernel
theorem dX0_judgeAll_2 : decode cX0_judgeAll 2 = .ok (.iload_n 1, 1) := by decide +kernel
theorem dX0_judgeAll_3 : decode cX0_judgeAll 3 = .ok (.aload_n 0, 1) := by decide +kernel
theorem dX0_judgeAll_4 : decode cX0_judgeAll 4 = .ok (.getfield 16, 3) := by decide +kernel
theorem dX0_judgeAll_7 : decode cX0_judgeAll 7 = .ok (.arraylength, 1) := by decide +kernel
theorem dX0_judgeAll_8 : decode cX0_judgeAll 8 = .ok (.if_icmp .ge 35, 3) := by decide +kernel
theorem dX0_judgeAll_11 : decode cX0_judgeAll 11 = .ok (.aload_n 0, 1) := by decide +kernel
theorem dX0_judgeAll_12 : decode cX0_judgeAll 12 = .ok (.getfield 20, 3) := by decide +kernel
theorem dX0_judgeAll_15 : decode cX0_judgeAll 15 = .ok (.aload_n 0, 1) := by decide +kernel
theorem dX0_judgeAll_16 : decode cX0_judgeAll 16 = .ok (.getfield 16, 3) := by decide +kernel
theorem dX0_judgeAll_19 : decode cX0_judgeAll 19 = .ok (.arraylength, 1) := by decide +kernel
theorem dX0_judgeAll_20 : decode cX0_judgeAll 20 = .ok (.iload_n 1, 1) := by decide +kernel
theorem dX0_judgeAll_21 : decode cX0_judgeAll 21 = .ok (.iadd, 1) := by decide +kernel
theorem dX0_judgeAll_22 : decode cX0_judgeAll 22 = .ok (.aload_n 0, 1) := by decide +kernel
theorem dX0_judgeAll_23 : decode cX0_judgeAll 23 = .ok (.getfield 16, 3) := by decide +kernel
theorem dX0_judgeAll_26 : decode cX0_judgeAll 26 = .ok (.iload_n 1, 1) := by decide +kernel
theorem dX0_judgeAll_27 : decode cX0_judgeAll 27 = .ok (.iaload, 1) := by decide +kernel
theorem dX0_judgeAll_28 : decode cX0_judgeAll 28 = .ok (.ifCond .ne 7, 3) := by decide +kernel
theorem dX0_judgeAll_31 : decode cX0_judgeAll 31 = .ok (.iconst 1, 1) := by decide +kernel
theorem dX0_judgeAll_32 : decode cX0_judgeAll 32 = .ok (.goto 4, 3) := by decide +kernel
theorem dX0_judgeAll_35 : decode cX0_judgeAll 35 = .ok (.iconst 0, 1) := by decide +kernel
theorem dX0_judgeAll_36 : decode cX0_judgeAll 36 = .ok (.bastore, 1) := by decide +kernel
theorem dX0_judgeAll_37 : decode cX0_judgeAll 37 = .ok (.iinc 1 1, 3) := by decide +kernel
theorem dX0_judgeAll_40 : decode cX0_judgeAll 40 = .ok (.goto (-38), 3) := by decide +kernel
theorem dX0_judgeAll_43 : decode cX0_judgeAll 43 = .ok (.aload_n 0, 1) := by decide +kernel
theorem dX0_judgeAll_44 : decode cX0_judgeAll 44 = .ok (.getfield 7, 3) := by decide +kernel
theorem dX0_judgeAll_47 : decode cX0_judgeAll 47 = .ok (.iconst 1, 1) := by decide +kernel
theorem dX0_judgeAll_48 : decode cX0_judgeAll 48 = .ok (.isub, 1) := by decide +kernel
theorem dX0_judgeAll_49 : decode cX0_judgeAll 49 = .ok (.istore_n 1, 1) := by decide +kernel
theorem dX0_judgeAll_50 : decode cX0_judgeAll 50 = .ok (.iload_n 1, 1) := by decide +kernel
theorem dX0_judgeAll_51 : decode cX0_judgeAll 51 = .ok (.ifCond .lt 14, 3) := by decide +kernel
theorem dX0_judgeAll_54 : decode cX0_judgeAll 54 = .ok (.aload_n 0, 1) := by decide +kernel
theorem dX0_judgeAll_55 : decode cX0_judgeAll 55 = .ok (.iload_n 1, 1) := by decide +kernel
theorem dX0_judgeAll_56 : decode cX0_judgeAll 56 = .ok (.invokevirtual 37, 3) := by decide +kernel
theorem dX0_judgeAll_59 : decode cX0_judgeAll 59 = .ok (.iinc 1 (-1), 3) := by decide +kernel
theorem dX0_judgeAll_62 : decode cX0_judgeAll 62 = .ok (.goto (-12), 3) := by decide +kernel
theorem dX0_judgeAll_65 : decode cX0_judgeAll 65 = .ok (.return_, 1) := by decide +kernel
theorem dX0_judgeDepth_0 : decode cX0_judgeDepth 0 = .ok (.aload_n 0, 1) := by decide +kernel
theorem dX0_judgeDepth_1 : decode cX0_judgeDepth 1 = .ok (.getfield 13, 3) := by decide +kernel
theorem dX0_judgeDepth_4 : decode cX0_judgeDepth 4 = .ok (.iload_n 1, 1) := by decide +kernel
theorem dX0_judgeDepth_5 : decode cX0_judgeDepth 5 = .ok (.invokestatic 27, 3) := by decide +kernel
theorem dX0_judgeDepth_8 : decode cX0_judgeDepth 8 = .ok (.ifCond .ne 7, 3) := by decide +kernel
theorem dX0_judgeDepth_11 : decode cX0_judgeDepth 11 = .ok (.iconst 1, 1) := by decide +kernel
theorem dX0_judgeDepth_12 : decode cX0_judgeDepth 12 = .ok (.goto 4, 3) := by decide +kernel
theorem dX0_judgeDepth_15 : decode cX0_judgeDepth 15 = .ok (.iconst 0, 1) := by decide +kernel
theorem dX0_judgeDepth_16 : decode cX0_judgeDepth 16 = .ok (.istore_n 2, 1) := by decide +kernel
theorem dX0_judgeDepth_17 : decode cX0_judgeDepth 17 = .ok (.iconst 1, 1) := by decide +kernel
theorem dX0_judgeDepth_18 : decode cX0_judgeDepth 18 = .ok (.iload_n 1, 1) := by decide +kernel
theorem dX0_judgeDepth_19 : decode cX0_judgeDepth 19 = .ok (.ishl, 1) := by decide +kernel
theorem dX0_judgeDepth_20 : decode cX0_judgeDepth 20 = .ok (.istore_n 3, 1) := by decide +kernel
theorem dX0_judgeDepth_21 : decode cX0_judgeDepth 21 = .ok (.iconst 0, 1) := by decide +kernel
theorem dX0_judgeDepth_22 : decode cX0_judgeDepth 22 = .ok (.istore 4, 2) := by decide +kernel
theorem dX0_judgeDepth_24 : decode cX0_judgeDepth 24 = .ok (.iload 4, 2) := by decide +kernel
theorem dX0_judgeDepth_26 : decode cX0_judgeDepth 26 = .ok (.iload_n 3, 1) := by decide +kernel
theorem dX0_judgeDepth_27 : decode cX0_judgeDepth 27 = .ok (.if_icmp .ge 79, 3) := by decide +kernel
theorem dX0_judgeDepth_30 : decode cX0_judgeDepth 30 = .ok (.aload_n 0, 1) := by decide +kernel
theorem dX0_judgeDepth_31 : decode cX0_judgeDepth 31 = .ok (.iload_n 1, 1) := by decide +kernel
theorem dX0_judgeDepth_32 : decode cX0_judgeDepth 32 = .ok (.iconst 1, 1) := by decide +kernel
theorem dX0_judgeDepth_33 : decode cX0_judgeDepth 33 = .ok (.iadd, 1) := by decide +kernel
theorem dX0_judgeDepth_34 : decode cX0_judgeDepth 34 = .ok (.iload 4, 2) := by decide +kernel
theorem dX0_judgeDepth_36 : decode cX0_judgeDepth 36 = .ok (.invokevirtual 33, 3) := by decide +kernel
theorem dX0_judgeDepth_39 : decode cX0_judgeDepth 39 = .ok (.istore 5, 2) := by decide +kernel
theorem dX0_judgeDepth_41 : decode cX0_judgeDepth 41 = .ok (.aload_n 0, 1) := by decide +kernel
theorem dX0_judgeDepth_42 : decode cX0_judgeDepth 42 = .ok (.iload_n 1, 1) := by decide +kernel
theorem dX0_judgeDepth_43 : decode cX0_judgeDepth 43 = .ok (.iconst 1, 1) := by decide +kernel
theorem dX0_judgeDepth_44 : decode cX0_judgeDepth 44 = .ok (.iadd, 1) := by decide +kernel
theorem dX0_judgeDepth_45 : decode cX0_judgeDepth 45 = .ok (.iload 4, 2) := by decide +kernel
theorem dX0_judgeDepth_47 : decode cX0_judgeDepth 47 = .ok (.iload_n 3, 1) := by decide +kernel
theorem dX0_judgeDepth_48 : decode cX0_judgeDepth 48 = .ok (.ior, 1) := by decide +kernel
theorem dX0_judgeDepth_49 : decode cX0_judgeDepth 49 = .ok (.invokevirtual 33, 3) := by decide +kernel
theorem dX0_judgeDepth_52 : decode cX0_judgeDepth 52 = .ok (.istore 6, 2) := by decide +kernel
theorem dX0_judgeDepth_54 : decode cX0_judgeDepth 54 = .ok (.aload_n 0, 1) := by decide +kernel
theorem dX0_judgeDepth_55 : decode cX0_judgeDepth 55 = .ok (.getfield 20, 3) := by decide +kernel
theorem dX0_judgeDepth_58 : decode cX0_judgeDepth 58 = .ok (.iload_n 3, 1) := by decide +kernel
theorem dX0_judgeDepth_59 : decode cX0_judgeDepth 59 = .ok (.iload 4, 2) := by decide +kernel
theorem dX0_judgeDepth_61 : decode cX0_judgeDepth 61 = .ok (.iadd, 1) := by decide +kernel
theorem dX0_judgeDepth_62 : decode cX0_judgeDepth 62 = .ok (.iload_n 2, 1) := by decide +kernel
theorem dX0_judgeDepth_63 : decode cX0_judgeDepth 63 = .ok (.ifCond .eq 21, 3) := by decide +kernel
theorem dX0_judgeDepth_66 : decode cX0_judgeDepth 66 = .ok (.iload 5, 2) := by decide +kernel
theorem dX0_judgeDepth_68 : decode cX0_judgeDepth 68 = .ok (.ifCond .ne 8, 3) := by decide +kernel
theorem dX0_judgeDepth_71 : decode cX0_judgeDepth 71 = .ok (.iload 6, 2) := by decide +kernel
theorem dX0_judgeDepth_73 : decode cX0_judgeDepth 73 = .ok (.ifCond .eq 7, 3) := by decide +kernel
theorem dX0_judgeDepth_76 : decode cX0_judgeDepth 76 = .ok (.iconst 1, 1) := by decide +kernel
theorem dX0_judgeDepth_77 : decode cX0_judgeDepth 77 = .ok (.goto 22, 3) := by decide +kernel
theorem dX0_judgeDepth_80 : decode cX0_judgeDepth 80 = .ok (.iconst 0, 1) := by decide +kernel
theorem dX0_judgeDepth_81 : decode cX0_judgeDepth 81 = .ok (.goto 18, 3) := by decide +kernel
theorem dX0_judgeDepth_84 : decode cX0_judgeDepth 84 = .ok (.iload 5, 2) := by decide +kernel
theorem dX0_judgeDepth_86 : decode cX0_judgeDepth 86 = .ok (.ifCond .eq 12, 3) := by decide +kernel
theorem dX0_judgeDepth_89 : decode cX0_judgeDepth 89 = .ok (.iload 6, 2) := by decide +kernel
theorem dX0_judgeDepth_91 : decode cX0_judgeDepth 91 = .ok (.ifCond .eq 7, 3) := by decide +kernel
theorem dX0_judgeDepth_94 : decode cX0_judgeDepth 94 = .ok (.iconst 1, 1) := by decide +kernel
theorem dX0_judgeDepth_95 : decode cX0_judgeDepth 95 = .ok (.goto 4, 3) := by decide +kernel
theorem dX0_judgeDepth_98 : decode cX0_judgeDepth 98 = .ok (.iconst 0, 1) := by decide +kernel
theorem dX0_judgeDepth_99 : decode cX0_judgeDepth 99 = .ok (.bastore, 1) := by decide +kernel
theorem dX0_judgeDepth_100 : decode cX0_judgeDepth 100 = .ok (.iinc 4 1, 3) := by decide +kernel
theorem dX0_judgeDepth_103 : decode cX0_judgeDepth 103 = .ok (.goto (-79), 3) := by decide +kernel
theorem dX0_judgeDepth_106 : decode cX0_judgeDepth 106 = .ok (.return_, 1) := by decide +kernel
theorem dX0_eveWinsAt_0 : decode cX0_eveWinsAt 0 = .ok (.aload_n 0, 1) := by decide +kernel
theorem dX0_eveWinsAt_1 : decode cX0_eveWinsAt 1 = .ok (.getfield 20, 3) := by decide +kernel
theorem dX0_eveWinsAt_4 : decode cX0_eveWinsAt 4 = .ok (.iconst 1, 1) := by decide +kernel
theorem dX0_eveWinsAt_5 : decode cX0_eveWinsAt 5 = .ok (.iload_n 1, 1) := by decide +kernel
theorem dX0_eveWinsAt_6 : decode cX0_eveWinsAt 6 = .ok (.ishl, 1) := by decide +kernel
theorem dX0_eveWinsAt_7 : decode cX0_eveWinsAt 7 = .ok (.iload_n 2, 1) := by decide +kernel
theorem dX0_eveWinsAt_8 : decode cX0_eveWinsAt 8 = .ok (.iadd, 1) := by decide +kernel
theorem dX0_eveWinsAt_9 : decode cX0_eveWinsAt 9 = .ok (.baload, 1) := by decide +kernel
theorem dX0_eveWinsAt_10 : decode cX0_eveWinsAt 10 = .ok (.ireturn, 1) := by decide +kernel
theorem dX1_variables_0 : decode cX1_variables 0 = .ok (.aload_n 0, 1) := by decide +kernel
theorem dX1_variables_1 : decode cX1_variables 1 = .ok (.getfield 18, 3) := by decide +kernel
theorem dX1_variables_4 : decode cX1_variables 4 = .ok (.ireturn, 1) := by decide +kernel
theorem dX1_adams_0 : decode cX1_adams 0 = .ok (.aload_n 0, 1) := by decide +kernel
theorem dX1_adams_1 : decode cX1_adams 1 = .ok (.getfield 25, 3) := by decide +kernel
theorem dX1_adams_4 : decode cX1_adams 4 = .ok (.ireturn, 1) := by decide +kernel
theorem dX1_add_0 : decode cX1_add 0 = .ok (.aload_n 0, 1) := by decide +kernel
theorem dX1_add_1 : decode cX1_add 1 = .ok (.iload_n 1, 1) := by decide +kernel
theorem dX1_add_2 : decode cX1_add 2 = .ok (.iload_n 2, 1) := by decide +kernel
theorem dX1_add_3 : decode cX1_add 3 = .ok (.invokevirtual 50, 3) := by decide +kernel
theorem dX1_add_6 : decode cX1_add 6 = .ok (.ifCond .ne 5, 3) := by decide +kernel
theorem dX1_add_9 : decode cX1_add 9 = .ok (.iconst (-1), 1) := by decide +kernel
theorem dX1_add_10 : decode cX1_add 10 = .ok (.ireturn, 1) := by decide +kernel
theorem dX1_add_11 : decode cX1_add 11 = .ok (.aload_n 0, 1) := by decide +kernel
theorem dX1_add_12 : decode cX1_add 12 = .ok (.getfield 54, 3) := by decide +kernel
theorem dX1_add_15 : decode cX1_add 15 = .ok (.bipush 24, 2) := by decide +kernel
theorem dX1_add_17 : decode cX1_add 17 = .ok (.if_icmp .lt 6, 3) := by decide +kernel
theorem dX1_add_20 : decode cX1_add 20 = .ok (.bipush (-2), 2) := by decide +kernel
theorem dX1_add_22 : decode cX1_add 22 = .ok (.ireturn, 1) := by decide +kernel
theorem dX1_add_23 : decode cX1_add 23 = .ok (.aload_n 0, 1) := by decide +kernel
theorem dX1_add_24 : decode cX1_add 24 = .ok (.getfield 40, 3) := by decide +kernel
theorem dX1_add_27 : decode cX1_add 27 = .ok (.aload_n 0, 1) := by decide +kernel
theorem dX1_add_28 : decode cX1_add 28 = .ok (.getfield 54, 3) := by decide +kernel
theorem dX1_add_31 : decode cX1_add 31 = .ok (.iload_n 1, 1) := by decide +kernel
theorem dX1_add_32 : decode cX1_add 32 = .ok (.iastore, 1) := by decide +kernel
theorem dX1_add_33 : decode cX1_add 33 = .ok (.aload_n 0, 1) := by decide +kernel
theorem dX1_add_34 : decode cX1_add 34 = .ok (.getfield 44, 3) := by decide +kernel
theorem dX1_add_37 : decode cX1_add 37 = .ok (.aload_n 0, 1) := by decide +kernel
theorem dX1_add_38 : decode cX1_add 38 = .ok (.getfield 54, 3) := by decide +kernel
theorem dX1_add_41 : decode cX1_add 41 = .ok (.iload_n 2, 1) := by decide +kernel
theorem dX1_add_42 : decode cX1_add 42 = .ok (.iastore, 1) := by decide +kernel
theorem dX1_add_43 : decode cX1_add 43 = .ok (.aload_n 0, 1) := by decide +kernel
theorem dX1_add_44 : decode cX1_add 44 = .ok (.dup, 1) := by decide +kernel
theorem dX1_add_45 : decode cX1_add 45 = .ok (.getfield 54, 3) := by decide +kernel
theorem dX1_add_48 : decode cX1_add 48 = .ok (.iconst 1, 1) := by decide +kernel
theorem dX1_add_49 : decode cX1_add 49 = .ok (.iadd, 1) := by decide +kernel
theorem dX1_add_50 : decode cX1_add 50 = .ok (.putfield 54, 3) := by decide +kernel
theorem dX1_add_53 : decode cX1_add 53 = .ok (.aload_n 0, 1) := by decide +kernel
theorem dX1_add_54 : decode cX1_add 54 = .ok (.getfield 36, 3) := by decide +kernel
theorem dX1_add_57 : decode cX1_add 57 = .ok (.iload_n 1, 1) := by decide +kernel
theorem dX1_add_58 : decode cX1_add 58 = .ok (.iload_n 2, 1) := by decide +kernel
theorem dX1_add_59 : decode cX1_add 59 = .ok (.iconst 1, 1) := by decide +kernel
theorem dX1_add_60 : decode cX1_add 60 = .ok (.invokevirtual 57, 3) := by decide +kernel
theorem dX1_add_63 : decode cX1_add 63 = .ok (.aload_n 0, 1) := by decide +kernel
theorem dX1_add_64 : decode cX1_add 64 = .ok (.getfield 54, 3) := by decide +kernel
theorem dX1_add_67 : decode cX1_add 67 = .ok (.iconst 1, 1) := by decide +kernel
theorem dX1_add_68 : decode cX1_add 68 = .ok (.isub, 1) := by decide +kernel
theorem dX1_add_69 : decode cX1_add 69 = .ok (.ireturn, 1) := by decide +kernel
theorem dX1_areSets_0 : decode cX1_areSets 0 = .ok (.iload_n 1, 1) := by decide +kernel
theorem dX1_areSets_1 : decode cX1_areSets 1 = .ok (.iload_n 2, 1) := by decide +kernel
theorem dX1_areSets_2 : decode cX1_areSets 2 = .ok (.ior, 1) := by decide +kernel
theorem dX1_areSets_3 : decode cX1_areSets 3 = .ok (.aload_n 0, 1) := by decide +kernel
theorem dX1_areSets_4 : decode cX1_areSets 4 = .ok (.getfield 18, 3) := by decide +kernel
theorem dX1_areSets_7 : decode cX1_areSets 7 = .ok (.iushr, 1) := by decide +kernel
theorem dX1_areSets_8 : decode cX1_areSets 8 = .ok (.ifCond .ne 7, 3) := by decide +kernel
theorem dX1_areSets_11 : decode cX1_areSets 11 = .ok (.iconst 1, 1) := by decide +kernel
theorem dX1_areSets_12 : decode cX1_areSets 12 = .ok (.goto 4, 3) := by decide +kernel
theorem dX1_areSets_15 : decode cX1_areSets 15 = .ok (.iconst 0, 1) := by decide +kernel
theorem dX1_areSets_16 : decode cX1_areSets 16 = .ok (.ireturn, 1) := by decide +kernel
theorem dX0_change_0 : decode cX0_change 0 = .ok (.iconst 0, 1) := by decide +kernel
theorem dX0_change_1 : decode cX0_change 1 = .ok (.istore 4, 2) := by decide +kernel
theorem dX0_change_3 : decode cX0_change 3 = .ok (.iload 4, 2) := by decide +kernel
theorem dX0_change_5 : decode cX0_change 5 = .ok (.aload_n 0, 1) := by decide +kernel
theorem dX0_change_6 : decode cX0_change 6 = .ok (.getfield 16, 3) := by decide +kernel
theorem dX0_change_9 : decode cX0_change 9 = .ok (.arraylength, 1) := by decide +kernel
theorem dX0_change_10 : decode cX0_change 10 = .ok (.if_icmp .ge 35, 3) := by decide +kernel
theorem dX0_change_13 : decode cX0_change 13 = .ok (.iload 4, 2) := by decide +kernel
theorem dX0_change_15 : decode cX0_change 15 = .ok (.iload_n 1, 1) := by decide +kernel
theorem dX0_change_16 : decode cX0_change 16 = .ok (.iand, 1) := by decide +kernel
theorem dX0_change_17 : decode cX0_change 17 = .ok (.ifCond .ne 22, 3) := by decide +kernel
theorem dX0_change_20 : decode cX0_change 20 = .ok (.iload 4, 2) := by decide +kernel
theorem dX0_change_22 : decode cX0_change 22 = .ok (.iload_n 2, 1) := by decide +kernel
theorem dX0_change_23 : decode cX0_change 23 = .ok (.iand, 1) := by decide +kernel
theorem dX0_change_24 : decode cX0_change 24 = .ok (.iload_n 2, 1) := by decide +kernel
theorem dX0_change_25 : decode cX0_change 25 = .ok (.if_icmp .ne 14, 3) := by decide +kernel
theorem dX0_change_28 : decode cX0_change 28 = .ok (.aload_n 0, 1) := by decide +kernel
theorem dX0_change_29 : decode cX0_change 29 = .ok (.getfield 16, 3) := by decide +kernel
theorem dX0_change_32 : decode cX0_change 32 = .ok (.iload 4, 2) := by decide +kernel
theorem dX0_change_34 : decode cX0_change 34 = .ok (.dup2, 1) := by decide +kernel
theorem dX0_change_35 : decode cX0_change 35 = .ok (.iaload, 1) := by decide +kernel
theorem dX0_change_36 : decode cX0_change 36 = .ok (.iload_n 3, 1) := by decide +kernel
theorem dX0_change_37 : decode cX0_change 37 = .ok (.iadd, 1) := by decide +kernel
theorem dX0_change_38 : decode cX0_change 38 = .ok (.iastore, 1) := by decide +kernel
theorem dX0_change_39 : decode cX0_change 39 = .ok (.iinc 4 1, 3) := by decide +kernel
theorem dX0_change_42 : decode cX0_change 42 = .ok (.goto (-39), 3) := by decide +kernel
theorem dX0_change_45 : decode cX0_change 45 = .ok (.aload_n 0, 1) := by decide +kernel
theorem dX0_change_46 : decode cX0_change 46 = .ok (.invokevirtual 24, 3) := by decide +kernel
theorem dX0_change_49 : decode cX0_change 49 = .ok (.return_, 1) := by decide +kernel
theorem dX1_drop_0 : decode cX1_drop 0 = .ok (.aload_n 0, 1) := by decide +kernel
theorem dX1_drop_1 : decode cX1_drop 1 = .ok (.iload_n 1, 1) := by decide +kernel
theorem dX1_drop_2 : decode cX1_drop 2 = .ok (.invokevirtual 61, 3) := by decide +kernel
theorem dX1_drop_5 : decode cX1_drop 5 = .ok (.ifCond .ne 5, 3) := by decide +kernel
theorem dX1_drop_8 : decode cX1_drop 8 = .ok (.iconst 0, 1) := by decide +kernel
theorem dX1_drop_9 : decode cX1_drop 9 = .ok (.ireturn, 1) := by decide +kernel
theorem dX1_drop_10 : decode cX1_drop 10 = .ok (.aload_n 0, 1) := by decide +kernel
theorem dX1_drop_11 : decode cX1_drop 11 = .ok (.getfield 36, 3) := by decide +kernel
theorem dX1_drop_14 : decode cX1_drop 14 = .ok (.aload_n 0, 1) := by decide +kernel
theorem dX1_drop_15 : decode cX1_drop 15 = .ok (.getfield 40, 3) := by decide +kernel
theorem dX1_drop_18 : decode cX1_drop 18 = .ok (.iload_n 1, 1) := by decide +kernel
theorem dX1_drop_19 : decode cX1_drop 19 = .ok (.iaload, 1) := by decide +kernel
theorem dX1_drop_20 : decode cX1_drop 20 = .ok (.aload_n 0, 1) := by decide +kernel
theorem dX1_drop_21 : decode cX1_drop 21 = .ok (.getfield 44, 3) := by decide +kernel
theorem dX1_drop_24 : decode cX1_drop 24 = .ok (.iload_n 1, 1) := by decide +kernel
theorem dX1_drop_25 : decode cX1_drop 25 = .ok (.iaload, 1) := by decide +kernel
theorem dX1_drop_26 : decode cX1_drop 26 = .ok (.iconst (-1), 1) := by decide +kernel
theorem dX1_drop_27 : decode cX1_drop 27 = .ok (.invokevirtual 57, 3) := by decide +kernel
theorem dX1_drop_30 : decode cX1_drop 30 = .ok (.aload_n 0, 1) := by decide +kernel
theorem dX1_drop_31 : decode cX1_drop 31 = .ok (.dup, 1) := by decide +kernel
theorem dX1_drop_32 : decode cX1_drop 32 = .ok (.getfield 54, 3) := by decide +kernel
theorem dX1_drop_35 : decode cX1_drop 35 = .ok (.iconst 1, 1) := by decide +kernel
theorem dX1_drop_36 : decode cX1_drop 36 = .ok (.isub, 1) := by decide +kernel
theorem dX1_drop_37 : decode cX1_drop 37 = .ok (.putfield 54, 3) := by decide +kernel
theorem dX1_drop_40 : decode cX1_drop 40 = .ok (.iload_n 1, 1) := by decide +kernel
theorem dX1_drop_41 : decode cX1_drop 41 = .ok (.istore_n 2, 1) := by decide +kernel
theorem dX1_drop_42 : decode cX1_drop 42 = .ok (.iload_n 2, 1) := by decide +kernel
theorem dX1_drop_43 : decode cX1_drop 43 = .ok (.aload_n 0, 1) := by decide +kernel
theorem dX1_drop_44 : decode cX1_drop 44 = .ok (.getfield 54, 3) := by decide +kernel
theorem dX1_drop_47 : decode cX1_drop 47 = .ok (.if_icmp .ge 37, 3) := by decide +kernel
theorem dX1_drop_50 : decode cX1_drop 50 = .ok (.aload_n 0, 1) := by decide +kernel
theorem dX1_drop_51 : decode cX1_drop 51 = .ok (.getfield 40, 3) := by decide +kernel
theorem dX1_drop_54 : decode cX1_drop 54 = .ok (.iload_n 2, 1) := by decide +kernel
theorem dX1_drop_55 : decode cX1_drop 55 = .ok (.aload_n 0, 1) := by decide +kernel
theorem dX1_drop_56 : decode cX1_drop 56 = .ok (.getfield 40, 3) := by decide +kernel
theorem dX1_drop_59 : decode cX1_drop 59 = .ok (.iload_n 2, 1) := by decide +kernel
theorem dX1_drop_60 : decode cX1_drop 60 = .ok (.iconst 1, 1) := by decide +kernel
theorem dX1_drop_61 : decode cX1_drop 61 = .ok (.iadd, 1) := by decide +kernel
theorem dX1_drop_62 : decode cX1_drop 62 = .ok (.iaload, 1) := by decide +kernel
theorem dX1_drop_63 : decode cX1_drop 63 = .ok (.iastore, 1) := by decide +kernel
theorem dX1_drop_64 : decode cX1_drop 64 = .ok (.aload_n 0, 1) := by decide +kernel
theorem dX1_drop_65 : decode cX1_drop 65 = .ok (.getfield 44, 3) := by decide +kernel
theorem dX1_drop_68 : decode cX1_drop 68 = .ok (.iload_n 2, 1) := by decide +kernel
theorem dX1_drop_69 : decode cX1_drop 69 = .ok (.aload_n 0, 1) := by decide +kernel
theorem dX1_drop_70 : decode cX1_drop 70 = .ok (.getfield 44, 3) := by decide +kernel
theorem dX1_drop_73 : decode cX1_drop 73 = .ok (.iload_n 2, 1) := by decide +kernel
theorem dX1_drop_74 : decode cX1_drop 74 = .ok (.iconst 1, 1) := by decide +kernel
theorem dX1_drop_75 : decode cX1_drop 75 = .ok (.iadd, 1) := by decide +kernel
theorem dX1_drop_76 : decode cX1_drop 76 = .ok (.iaload, 1) := by decide +kernel
theorem dX1_drop_77 : decode cX1_drop 77 = .ok (.iastore, 1) := by decide +kernel
theorem dX1_drop_78 : decode cX1_drop 78 = .ok (.iinc 2 1, 3) := by decide +kernel
theorem dX1_drop_81 : decode cX1_drop 81 = .ok (.goto (-39), 3) := by decide +kernel
theorem dX1_drop_84 : decode cX1_drop 84 = .ok (.iconst 1, 1) := by decide +kernel
theorem dX1_drop_85 : decode cX1_drop 85 = .ok (.ireturn, 1) := by decide +kernel
theorem dX1_isClause_0 : decode cX1_isClause 0 = .ok (.iload_n 1, 1) := by decide +kernel
theorem dX1_isClause_1 : decode cX1_isClause 1 = .ok (.ifCond .lt 15, 3) := by decide +kernel
theorem dX1_isClause_4 : decode cX1_isClause 4 = .ok (.iload_n 1, 1) := by decide +kernel
theorem dX1_isClause_5 : decode cX1_isClause 5 = .ok (.aload_n 0, 1) := by decide +kernel
theorem dX1_isClause_6 : decode cX1_isClause 6 = .ok (.getfield 54, 3) := by decide +kernel
theorem dX1_isClause_9 : decode cX1_isClause 9 = .ok (.if_icmp .ge 7, 3) := by decide +kernel
theorem dX1_isClause_12 : decode cX1_isClause 12 = .ok (.iconst 1, 1) := by decide +kernel
theorem dX1_isClause_13 : decode cX1_isClause 13 = .ok (.goto 4, 3) := by decide +kernel
theorem dX1_isClause_16 : decode cX1_isClause 16 = .ok (.iconst 0, 1) := by decide +kernel
theorem dX1_isClause_17 : decode cX1_isClause 17 = .ok (.ireturn, 1) := by decide +kernel
theorem dX1_clauses_0 : decode cX1_clauses 0 = .ok (.aload_n 0, 1) := by decide +kernel
theorem dX1_clauses_1 : decode cX1_clauses 1 = .ok (.getfield 54, 3) := by decide +kernel
theorem dX1_clauses_4 : decode cX1_clauses 4 = .ok (.ireturn, 1) := by decide +kernel
theorem dX1_play_0 : decode cX1_play 0 = .ok (.iload_n 1, 1) := by decide +kernel
theorem dX1_play_1 : decode cX1_play 1 = .ok (.ifCond .eq 8, 3) := by decide +kernel
theorem dX1_play_4 : decode cX1_play 4 = .ok (.iload_n 1, 1) := by decide +kernel
theorem dX1_play_5 : decode cX1_play 5 = .ok (.iconst 1, 1) := by decide +kernel
theorem dX1_play_6 : decode cX1_play 6 = .ok (.if_icmp .ne 14, 3) := by decide +kernel
theorem dX1_play_9 : decode cX1_play 9 = .ok (.aload_n 0, 1) := by decide +kernel
theorem dX1_play_10 : decode cX1_play 10 = .ok (.getfield 65, 3) := by decide +kernel
theorem dX1_play_13 : decode cX1_play 13 = .ok (.aload_n 0, 1) := by decide +kernel
theorem dX1_play_14 : decode cX1_play 14 = .ok (.getfield 18, 3) := by decide +kernel
theorem dX1_play_17 : decode cX1_play 17 = .ok (.if_icmp .lt 5, 3) := by decide +kernel
theorem dX1_play_20 : decode cX1_play 20 = .ok (.iconst (-1), 1) := by decide +kernel
theorem dX1_play_21 : decode cX1_play 21 = .ok (.ireturn, 1) := by decide +kernel
theorem dX1_play_22 : decode cX1_play 22 = .ok (.aload_n 0, 1) := by decide +kernel
theorem dX1_play_23 : decode cX1_play 23 = .ok (.dup, 1) := by decide +kernel
theorem dX1_play_24 : decode cX1_play 24 = .ok (.getfield 68, 3) := by decide +kernel
theorem dX1_play_27 : decode cX1_play 27 = .ok (.iload_n 1, 1) := by decide +kernel
theorem dX1_play_28 : decode cX1_play 28 = .ok (.aload_n 0, 1) := by decide +kernel
theorem dX1_play_29 : decode cX1_play 29 = .ok (.getfield 65, 3) := by decide +kernel
theorem dX1_play_32 : decode cX1_play 32 = .ok (.ishl, 1) := by decide +kernel
theorem dX1_play_33 : decode cX1_play 33 = .ok (.ior, 1) := by decide +kernel
theorem dX1_play_34 : decode cX1_play 34 = .ok (.putfield 68, 3) := by decide +kernel
theorem dX1_play_37 : decode cX1_play 37 = .ok (.aload_n 0, 1) := by decide +kernel
theorem dX1_play_38 : decode cX1_play 38 = .ok (.dup, 1) := by decide +kernel
theorem dX1_play_39 : decode cX1_play 39 = .ok (.getfield 65, 3) := by decide +kernel
theorem dX1_play_42 : decode cX1_play 42 = .ok (.iconst 1, 1) := by decide +kernel
theorem dX1_play_43 : decode cX1_play 43 = .ok (.iadd, 1) := by decide +kernel
theorem dX1_play_44 : decode cX1_play 44 = .ok (.putfield 65, 3) := by decide +kernel
theorem dX1_play_47 : decode cX1_play 47 = .ok (.aload_n 0, 1) := by decide +kernel
theorem dX1_play_48 : decode cX1_play 48 = .ok (.getfield 65, 3) := by decide +kernel
theorem dX1_play_51 : decode cX1_play 51 = .ok (.iconst 1, 1) := by decide +kernel
theorem dX1_play_52 : decode cX1_play 52 = .ok (.isub, 1) := by decide +kernel
theorem dX1_play_53 : decode cX1_play 53 = .ok (.ireturn, 1) := by decide +kernel
theorem dX1_undo_0 : decode cX1_undo 0 = .ok (.aload_n 0, 1) := by decide +kernel
theorem dX1_undo_1 : decode cX1_undo 1 = .ok (.getfield 65, 3) := by decide +kernel
theorem dX1_undo_4 : decode cX1_undo 4 = .ok (.ifCond .gt 5, 3) := by decide +kernel
theorem dX1_undo_7 : decode cX1_undo 7 = .ok (.iconst 0, 1) := by decide +kernel
theorem dX1_undo_8 : decode cX1_undo 8 = .ok (.ireturn, 1) := by decide +kernel
theorem dX1_undo_9 : decode cX1_undo 9 = .ok (.aload_n 0, 1) := by decide +kernel
theorem dX1_undo_10 : decode cX1_undo 10 = .ok (.dup, 1) := by decide +kernel
theorem dX1_undo_11 : decode cX1_undo 11 = .ok (.getfield 65, 3) := by decide +kernel
theorem dX1_undo_14 : decode cX1_undo 14 = .ok (.iconst 1, 1) := by decide +kernel
theorem dX1_undo_15 : decode cX1_undo 15 = .ok (.isub, 1) := by decide +kernel
theorem dX1_undo_16 : decode cX1_undo 16 = .ok (.putfield 65, 3) := by decide +kernel
theorem dX1_undo_19 : decode cX1_undo 19 = .ok (.aload_n 0, 1) := by decide +kernel
theorem dX1_undo_20 : decode cX1_undo 20 = .ok (.dup, 1) := by decide +kernel
theorem dX1_undo_21 : decode cX1_undo 21 = .ok (.getfield 68, 3) := by decide +kernel
theorem dX1_undo_24 : decode cX1_undo 24 = .ok (.iconst 1, 1) := by decide +kernel
theorem dX1_undo_25 : decode cX1_undo 25 = .ok (.aload_n 0, 1) := by decide +kernel
theorem dX1_undo_26 : decode cX1_undo 26 = .ok (.getfield 65, 3) := by decide +kernel
theorem dX1_undo_29 : decode cX1_undo 29 = .ok (.ishl, 1) := by decide +kernel
theorem dX1_undo_30 : decode cX1_undo 30 = .ok (.iconst (-1), 1) := by decide +kernel
theorem dX1_undo_31 : decode cX1_undo 31 = .ok (.ixor, 1) := by decide +kernel
theorem dX1_undo_32 : decode cX1_undo 32 = .ok (.iand, 1) := by decide +kernel
theorem dX1_undo_33 : decode cX1_undo 33 = .ok (.putfield 68, 3) := by decide +kernel
theorem dX1_undo_36 : decode cX1_undo 36 = .ok (.iconst 1, 1) := by decide +kernel
theorem dX1_undo_37 : decode cX1_undo 37 = .ok (.ireturn, 1) := by decide +kernel
theorem dX1_played_0 : decode cX1_played 0 = .ok (.aload_n 0, 1) := by decide +kernel
theorem dX1_played_1 : decode cX1_played 1 = .ok (.getfield 65, 3) := by decide +kernel
theorem dX1_played_4 : decode cX1_played 4 = .ok (.ireturn, 1) := by decide +kernel
theorem dX1_wins_0 : decode cX1_wins 0 = .ok (.aload_n 0, 1) := by decide +kernel
theorem dX1_wins_1 : decode cX1_wins 1 = .ok (.getfield 36, 3) := by decide +kernel
theorem dX1_wins_4 : decode cX1_wins 4 = .ok (.aload_n 0, 1) := by decide +kernel
theorem dX1_wins_5 : decode cX1_wins 5 = .ok (.getfield 65, 3) := by decide +kernel
theorem dX1_wins_8 : decode cX1_wins 8 = .ok (.aload_n 0, 1) := by decide +kernel
theorem dX1_wins_9 : decode cX1_wins 9 = .ok (.getfield 68, 3) := by decide +kernel
theorem dX1_wins_12 : decode cX1_wins 12 = .ok (.invokevirtual 71, 3) := by decide +kernel
theorem dX1_wins_15 : decode cX1_wins 15 = .ok (.ireturn, 1) := by decide +kernel
theorem dX1_best_0 : decode cX1_best 0 = .ok (.aload_n 0, 1) := by decide +kernel
theorem dX1_best_1 : decode cX1_best 1 = .ok (.getfield 65, 3) := by decide +kernel
theorem dX1_best_4 : decode cX1_best 4 = .ok (.aload_n 0, 1) := by decide +kernel
theorem dX1_best_5 : decode cX1_best 5 = .ok (.getfield 18, 3) := by decide +kernel
theorem dX1_best_8 : decode cX1_best 8 = .ok (.if_icmp .lt 7, 3) := by decide +kernel
theorem dX1_best_11 : decode cX1_best 11 = .ok (.iconst (-1), 1) := by decide +kernel
theorem dX1_best_12 : decode cX1_best 12 = .ok (.goto 18, 3) := by decide +kernel
theorem dX1_best_15 : decode cX1_best 15 = .ok (.aload_n 0, 1) := by decide +kernel
theorem dX1_best_16 : decode cX1_best 16 = .ok (.getfield 36, 3) := by decide +kernel
theorem dX1_best_19 : decode cX1_best 19 = .ok (.aload_n 0, 1) := by decide +kernel
theorem dX1_best_20 : decode cX1_best 20 = .ok (.getfield 65, 3) := by decide +kernel
theorem dX1_best_23 : decode cX1_best 23 = .ok (.aload_n 0, 1) := by decide +kernel
theorem dX1_best_24 : decode cX1_best 24 = .ok (.getfield 68, 3) := by decide +kernel
theorem dX1_best_27 : decode cX1_best 27 = .ok (.invokevirtual 74, 3) := by decide +kernel
theorem dX1_best_30 : decode cX1_best 30 = .ok (.ireturn, 1) := by decide +kernel
theorem dX0_bestMove_0 : decode cX0_bestMove 0 = .ok (.aload_n 0, 1) := by decide +kernel
theorem dX0_bestMove_1 : decode cX0_bestMove 1 = .ok (.getfield 13, 3) := by decide +kernel
theorem dX0_bestMove_4 : decode cX0_bestMove 4 = .ok (.iload_n 1, 1) := by decide +kernel
theorem dX0_bestMove_5 : decode cX0_bestMove 5 = .ok (.invokestatic 27, 3) := by decide +kernel
theorem dX0_bestMove_8 : decode cX0_bestMove 8 = .ok (.ifCond .ne 7, 3) := by decide +kernel
theorem dX0_bestMove_11 : decode cX0_bestMove 11 = .ok (.iconst 1, 1) := by decide +kernel
theorem dX0_bestMove_12 : decode cX0_bestMove 12 = .ok (.goto 4, 3) := by decide +kernel
theorem dX0_bestMove_15 : decode cX0_bestMove 15 = .ok (.iconst 0, 1) := by decide +kernel
theorem dX0_bestMove_16 : decode cX0_bestMove 16 = .ok (.istore_n 3, 1) := by decide +kernel
theorem dX0_bestMove_17 : decode cX0_bestMove 17 = .ok (.aload_n 0, 1) := by decide +kernel
theorem dX0_bestMove_18 : decode cX0_bestMove 18 = .ok (.iload_n 1, 1) := by decide +kernel
theorem dX0_bestMove_19 : decode cX0_bestMove 19 = .ok (.iconst 1, 1) := by decide +kernel
theorem dX0_bestMove_20 : decode cX0_bestMove 20 = .ok (.iadd, 1) := by decide +kernel
theorem dX0_bestMove_21 : decode cX0_bestMove 21 = .ok (.iload_n 2, 1) := by decide +kernel
theorem dX0_bestMove_22 : decode cX0_bestMove 22 = .ok (.invokevirtual 33, 3) := by decide +kernel
theorem dX0_bestMove_25 : decode cX0_bestMove 25 = .ok (.iload_n 3, 1) := by decide +kernel
theorem dX0_bestMove_26 : decode cX0_bestMove 26 = .ok (.if_icmp .ne 7, 3) := by decide +kernel
theorem dX0_bestMove_29 : decode cX0_bestMove 29 = .ok (.iconst 1, 1) := by decide +kernel
theorem dX0_bestMove_30 : decode cX0_bestMove 30 = .ok (.goto 4, 3) := by decide +kernel
theorem dX0_bestMove_33 : decode cX0_bestMove 33 = .ok (.iconst 0, 1) := by decide +kernel
theorem dX0_bestMove_34 : decode cX0_bestMove 34 = .ok (.istore 4, 2) := by decide +kernel
theorem dX0_bestMove_36 : decode cX0_bestMove 36 = .ok (.aload_n 0, 1) := by decide +kernel
theorem dX0_bestMove_37 : decode cX0_bestMove 37 = .ok (.iload_n 1, 1) := by decide +kernel
theorem dX0_bestMove_38 : decode cX0_bestMove 38 = .ok (.iconst 1, 1) := by decide +kernel
theorem dX0_bestMove_39 : decode cX0_bestMove 39 = .ok (.iadd, 1) := by decide +kernel
theorem dX0_bestMove_40 : decode cX0_bestMove 40 = .ok (.iload_n 2, 1) := by decide +kernel
theorem dX0_bestMove_41 : decode cX0_bestMove 41 = .ok (.iconst 1, 1) := by decide +kernel
theorem dX0_bestMove_42 : decode cX0_bestMove 42 = .ok (.iload_n 1, 1) := by decide +kernel
theorem dX0_bestMove_43 : decode cX0_bestMove 43 = .ok (.ishl, 1) := by decide +kernel
theorem dX0_bestMove_44 : decode cX0_bestMove 44 = .ok (.ior, 1) := by decide +kernel
theorem dX0_bestMove_45 : decode cX0_bestMove 45 = .ok (.invokevirtual 33, 3) := by decide +kernel
theorem dX0_bestMove_48 : decode cX0_bestMove 48 = .ok (.iload_n 3, 1) := by decide +kernel
theorem dX0_bestMove_49 : decode cX0_bestMove 49 = .ok (.if_icmp .ne 7, 3) := by decide +kernel
theorem dX0_bestMove_52 : decode cX0_bestMove 52 = .ok (.iconst 1, 1) := by decide +kernel
theorem dX0_bestMove_53 : decode cX0_bestMove 53 = .ok (.goto 4, 3) := by decide +kernel
theorem dX0_bestMove_56 : decode cX0_bestMove 56 = .ok (.iconst 0, 1) := by decide +kernel
theorem dX0_bestMove_57 : decode cX0_bestMove 57 = .ok (.istore 5, 2) := by decide +kernel
theorem dX0_bestMove_59 : decode cX0_bestMove 59 = .ok (.iload 4, 2) := by decide +kernel
theorem dX0_bestMove_61 : decode cX0_bestMove 61 = .ok (.ifCond .ne 12, 3) := by decide +kernel
theorem dX0_bestMove_64 : decode cX0_bestMove 64 = .ok (.iload 5, 2) := by decide +kernel
theorem dX0_bestMove_66 : decode cX0_bestMove 66 = .ok (.ifCond .eq 7, 3) := by decide +kernel
theorem dX0_bestMove_69 : decode cX0_bestMove 69 = .ok (.iconst 1, 1) := by decide +kernel
theorem dX0_bestMove_70 : decode cX0_bestMove 70 = .ok (.goto 4, 3) := by decide +kernel
theorem dX0_bestMove_73 : decode cX0_bestMove 73 = .ok (.iconst 0, 1) := by decide +kernel
theorem dX0_bestMove_74 : decode cX0_bestMove 74 = .ok (.ireturn, 1) := by decide +kernel
theorem dX1_reply_0 : decode cX1_reply 0 = .ok (.aload_n 0, 1) := by decide +kernel
theorem dX1_reply_1 : decode cX1_reply 1 = .ok (.iload_n 1, 1) := by decide +kernel
theorem dX1_reply_2 : decode cX1_reply 2 = .ok (.invokevirtual 77, 3) := by decide +kernel
theorem dX1_reply_5 : decode cX1_reply 5 = .ok (.ifCond .eq 19, 3) := by decide +kernel
theorem dX1_reply_8 : decode cX1_reply 8 = .ok (.aload_n 0, 1) := by decide +kernel
theorem dX1_reply_9 : decode cX1_reply 9 = .ok (.aload_n 0, 1) := by decide +kernel
theorem dX1_reply_10 : decode cX1_reply 10 = .ok (.getfield 28, 3) := by decide +kernel
theorem dX1_reply_13 : decode cX1_reply 13 = .ok (.iload_n 2, 1) := by decide +kernel
theorem dX1_reply_14 : decode cX1_reply 14 = .ok (.invokevirtual 80, 3) := by decide +kernel
theorem dX1_reply_17 : decode cX1_reply 17 = .ok (.iload_n 1, 1) := by decide +kernel
theorem dX1_reply_18 : decode cX1_reply 18 = .ok (.invokestatic 83, 3) := by decide +kernel
theorem dX1_reply_21 : decode cX1_reply 21 = .ok (.goto 4, 3) := by decide +kernel
theorem dX1_reply_24 : decode cX1_reply 24 = .ok (.iconst (-1), 1) := by decide +kernel
theorem dX1_reply_25 : decode cX1_reply 25 = .ok (.ireturn, 1) := by decide +kernel
theorem dX1_isVariable_0 : decode cX1_isVariable 0 = .ok (.iload_n 1, 1) := by decide +kernel
theorem dX1_isVariable_1 : decode cX1_isVariable 1 = .ok (.ifCond .lt 15, 3) := by decide +kernel
theorem dX1_isVariable_4 : decode cX1_isVariable 4 = .ok (.iload_n 1, 1) := by decide +kernel
theorem dX1_isVariable_5 : decode cX1_isVariable 5 = .ok (.aload_n 0, 1) := by decide +kernel
theorem dX1_isVariable_6 : decode cX1_isVariable 6 = .ok (.getfield 18, 3) := by decide +kernel
theorem dX1_isVariable_9 : decode cX1_isVariable 9 = .ok (.if_icmp .ge 7, 3) := by decide +kernel
theorem dX1_isVariable_12 : decode cX1_isVariable 12 = .ok (.iconst 1, 1) := by decide +kernel
theorem dX1_isVariable_13 : decode cX1_isVariable 13 = .ok (.goto 4, 3) := by decide +kernel
theorem dX1_isVariable_16 : decode cX1_isVariable 16 = .ok (.iconst 0, 1) := by decide +kernel
theorem dX1_isVariable_17 : decode cX1_isVariable 17 = .ok (.ireturn, 1) := by decide +kernel
theorem dX1_valuesWithBest_0 : decode cX1_valuesWithBest 0 = .ok (.iconst 0, 1) := by decide +kernel
theorem dX1_valuesWithBest_1 : decode cX1_valuesWithBest 1 = .ok (.istore_n 3, 1) := by decide +kernel
theorem dX1_valuesWithBest_2 : decode cX1_valuesWithBest 2 = .ok (.iconst 0, 1) := by decide +kernel
theorem dX1_valuesWithBest_3 : decode cX1_valuesWithBest 3 = .ok (.istore 4, 2) := by decide +kernel
theorem dX1_valuesWithBest_5 : decode cX1_valuesWithBest 5 = .ok (.iload 4, 2) := by decide +kernel
theorem dX1_valuesWithBest_7 : decode cX1_valuesWithBest 7 = .ok (.aload_n 0, 1) := by decide +kernel
theorem dX1_valuesWithBest_8 : decode cX1_valuesWithBest 8 = .ok (.getfield 18, 3) := by decide +kernel
theorem dX1_valuesWithBest_11 : decode cX1_valuesWithBest 11 = .ok (.if_icmp .ge 48, 3) := by decide +kernel
theorem dX1_valuesWithBest_14 : decode cX1_valuesWithBest 14 = .ok (.iload_n 1, 1) := by decide +kernel
theorem dX1_valuesWithBest_15 : decode cX1_valuesWithBest 15 = .ok (.iload 4, 2) := by decide +kernel
theorem dX1_valuesWithBest_17 : decode cX1_valuesWithBest 17 = .ok (.invokestatic 83, 3) := by decide +kernel
theorem dX1_valuesWithBest_20 : decode cX1_valuesWithBest 20 = .ok (.iconst 1, 1) := by decide +kernel
theorem dX1_valuesWithBest_21 : decode cX1_valuesWithBest 21 = .ok (.if_icmp .ne 16, 3) := by decide +kernel
theorem dX1_valuesWithBest_24 : decode cX1_valuesWithBest 24 = .ok (.aload_n 0, 1) := by decide +kernel
theorem dX1_valuesWithBest_25 : decode cX1_valuesWithBest 25 = .ok (.getfield 36, 3) := by decide +kernel
theorem dX1_valuesWithBest_28 : decode cX1_valuesWithBest 28 = .ok (.iload 4, 2) := by decide +kernel
theorem dX1_valuesWithBest_30 : decode cX1_valuesWithBest 30 = .ok (.iload_n 3, 1) := by decide +kernel
theorem dX1_valuesWithBest_31 : decode cX1_valuesWithBest 31 = .ok (.invokevirtual 74, 3) := by decide +kernel
theorem dX1_valuesWithBest_34 : decode cX1_valuesWithBest 34 = .ok (.goto 9, 3) := by decide +kernel
theorem dX1_valuesWithBest_37 : decode cX1_valuesWithBest 37 = .ok (.iload_n 2, 1) := by decide +kernel
theorem dX1_valuesWithBest_38 : decode cX1_valuesWithBest 38 = .ok (.iload 4, 2) := by decide +kernel
theorem dX1_valuesWithBest_40 : decode cX1_valuesWithBest 40 = .ok (.invokestatic 83, 3) := by decide +kernel
theorem dX1_valuesWithBest_43 : decode cX1_valuesWithBest 43 = .ok (.istore 5, 2) := by decide +kernel
theorem dX1_valuesWithBest_45 : decode cX1_valuesWithBest 45 = .ok (.iload_n 3, 1) := by decide +kernel
theorem dX1_valuesWithBest_46 : decode cX1_valuesWithBest 46 = .ok (.iload 5, 2) := by decide +kernel
theorem dX1_valuesWithBest_48 : decode cX1_valuesWithBest 48 = .ok (.iload 4, 2) := by decide +kernel
