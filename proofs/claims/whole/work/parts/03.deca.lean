theorem dX0_init_0 : decode cX0_init 0 = .ok (.aload_n 0, 1) := by decide +kernel
theorem dX0_init_1 : decode cX0_init 1 = .ok (.invokespecial 3, 3) := by decide +kernel
theorem dX0_init_4 : decode cX0_init 4 = .ok (.aload_n 0, 1) := by decide +kernel
theorem dX0_init_5 : decode cX0_init 5 = .ok (.bipush 64, 2) := by decide +kernel
theorem dX0_init_7 : decode cX0_init 7 = .ok (.newarray .long, 2) := by decide +kernel
theorem dX0_init_9 : decode cX0_init 9 = .ok (.putfield 11, 3) := by decide +kernel
theorem dX0_init_12 : decode cX0_init 12 = .ok (.aload_n 0, 1) := by decide +kernel
theorem dX0_init_13 : decode cX0_init 13 = .ok (.bipush 64, 2) := by decide +kernel
theorem dX0_init_15 : decode cX0_init 15 = .ok (.newarray .long, 2) := by decide +kernel
theorem dX0_init_17 : decode cX0_init 17 = .ok (.putfield 15, 3) := by decide +kernel
theorem dX0_init_20 : decode cX0_init 20 = .ok (.return_, 1) := by decide +kernel
theorem dX0_evaluate_0 : decode cX0_evaluate 0 = .ok (.aload_n 0, 1) := by decide +kernel
theorem dX0_evaluate_1 : decode cX0_evaluate 1 = .ok (.iconst 0, 1) := by decide +kernel
theorem dX0_evaluate_2 : decode cX0_evaluate 2 = .ok (.putfield 18, 3) := by decide +kernel
theorem dX0_evaluate_5 : decode cX0_evaluate 5 = .ok (.aload_n 0, 1) := by decide +kernel
theorem dX0_evaluate_6 : decode cX0_evaluate 6 = .ok (.lload_n 2, 1) := by decide +kernel
theorem dX0_evaluate_7 : decode cX0_evaluate 7 = .ok (.lload 4, 2) := by decide +kernel
theorem dX0_evaluate_9 : decode cX0_evaluate 9 = .ok (.invokevirtual 22, 3) := by decide +kernel
theorem dX0_evaluate_12 : decode cX0_evaluate 12 = .ok (.aload_n 0, 1) := by decide +kernel
theorem dX0_evaluate_13 : decode cX0_evaluate 13 = .ok (.invokevirtual 26, 3) := by decide +kernel
theorem dX0_evaluate_16 : decode cX0_evaluate 16 = .ok (.lstore 6, 2) := by decide +kernel
theorem dX0_evaluate_18 : decode cX0_evaluate 18 = .ok (.aload_n 0, 1) := by decide +kernel
theorem dX0_evaluate_19 : decode cX0_evaluate 19 = .ok (.invokevirtual 30, 3) := by decide +kernel
theorem dX0_evaluate_22 : decode cX0_evaluate 22 = .ok (.lstore 8, 2) := by decide +kernel
theorem dX0_evaluate_24 : decode cX0_evaluate 24 = .ok (.aload_n 0, 1) := by decide +kernel
theorem dX0_evaluate_25 : decode cX0_evaluate 25 = .ok (.iconst 0, 1) := by decide +kernel
theorem dX0_evaluate_26 : decode cX0_evaluate 26 = .ok (.putfield 18, 3) := by decide +kernel
theorem dX0_evaluate_29 : decode cX0_evaluate 29 = .ok (.lload 8, 2) := by decide +kernel
theorem dX0_evaluate_31 : decode cX0_evaluate 31 = .ok (.lconst 0, 1) := by decide +kernel
theorem dX0_evaluate_32 : decode cX0_evaluate 32 = .ok (.lcmp, 1) := by decide +kernel
theorem dX0_evaluate_33 : decode cX0_evaluate 33 = .ok (.ifCond .ne 10, 3) := by decide +kernel
theorem dX0_evaluate_36 : decode cX0_evaluate 36 = .ok (.aload_n 0, 1) := by decide +kernel
theorem dX0_evaluate_37 : decode cX0_evaluate 37 = .ok (.lconst 0, 1) := by decide +kernel
theorem dX0_evaluate_38 : decode cX0_evaluate 38 = .ok (.lconst 0, 1) := by decide +kernel
theorem dX0_evaluate_39 : decode cX0_evaluate 39 = .ok (.invokevirtual 33, 3) := by decide +kernel
theorem dX0_evaluate_42 : decode cX0_evaluate 42 = .ok (.return_, 1) := by decide +kernel
theorem dX0_evaluate_43 : decode cX0_evaluate 43 = .ok (.iconst 0, 1) := by decide +kernel
theorem dX0_evaluate_44 : decode cX0_evaluate 44 = .ok (.istore 10, 2) := by decide +kernel
theorem dX0_evaluate_46 : decode cX0_evaluate 46 = .ok (.iconst 0, 1) := by decide +kernel
theorem dX0_evaluate_47 : decode cX0_evaluate 47 = .ok (.istore 11, 2) := by decide +kernel
theorem dX0_evaluate_49 : decode cX0_evaluate 49 = .ok (.iload 11, 2) := by decide +kernel
theorem dX0_evaluate_51 : decode cX0_evaluate 51 = .ok (.aload_n 1, 1) := by decide +kernel
theorem dX0_evaluate_52 : decode cX0_evaluate 52 = .ok (.arraylength, 1) := by decide +kernel
theorem dX0_evaluate_53 : decode cX0_evaluate 53 = .ok (.if_icmp .ge 114, 3) := by decide +kernel
theorem dX0_evaluate_56 : decode cX0_evaluate 56 = .ok (.iload 10, 2) := by decide +kernel
theorem dX0_evaluate_58 : decode cX0_evaluate 58 = .ok (.ifCond .lt 109, 3) := by decide +kernel
theorem dX0_evaluate_61 : decode cX0_evaluate 61 = .ok (.iload 10, 2) := by decide +kernel
theorem dX0_evaluate_63 : decode cX0_evaluate 63 = .ok (.aload_n 1, 1) := by decide +kernel
theorem dX0_evaluate_64 : decode cX0_evaluate 64 = .ok (.arraylength, 1) := by decide +kernel
theorem dX0_evaluate_65 : decode cX0_evaluate 65 = .ok (.if_icmp .ge 102, 3) := by decide +kernel
theorem dX0_evaluate_68 : decode cX0_evaluate 68 = .ok (.aload_n 1, 1) := by decide +kernel
theorem dX0_evaluate_69 : decode cX0_evaluate 69 = .ok (.iload 10, 2) := by decide +kernel
theorem dX0_evaluate_71 : decode cX0_evaluate 71 = .ok (.iaload, 1) := by decide +kernel
theorem dX0_evaluate_72 : decode cX0_evaluate 72 = .ok (.istore 12, 2) := by decide +kernel
theorem dX0_evaluate_74 : decode cX0_evaluate 74 = .ok (.iload 12, 2) := by decide +kernel
theorem dX0_evaluate_76 : decode cX0_evaluate 76 = .ok (.ifCond .lt 17, 3) := by decide +kernel
theorem dX0_evaluate_79 : decode cX0_evaluate 79 = .ok (.aload_n 0, 1) := by decide +kernel
theorem dX0_evaluate_80 : decode cX0_evaluate 80 = .ok (.iload 12, 2) := by decide +kernel
theorem dX0_evaluate_82 : decode cX0_evaluate 82 = .ok (.i2l, 1) := by decide +kernel
theorem dX0_evaluate_83 : decode cX0_evaluate 83 = .ok (.lconst 1, 1) := by decide +kernel
theorem dX0_evaluate_84 : decode cX0_evaluate 84 = .ok (.invokevirtual 33, 3) := by decide +kernel
theorem dX0_evaluate_87 : decode cX0_evaluate 87 = .ok (.iinc 10 1, 3) := by decide +kernel
theorem dX0_evaluate_90 : decode cX0_evaluate 90 = .ok (.goto 71, 3) := by decide +kernel
theorem dX0_evaluate_93 : decode cX0_evaluate 93 = .ok (.iload 12, 2) := by decide +kernel
theorem dX0_evaluate_95 : decode cX0_evaluate 95 = .ok (.iconst (-1), 1) := by decide +kernel
theorem dX0_evaluate_96 : decode cX0_evaluate 96 = .ok (.if_icmp .ne 17, 3) := by decide +kernel
theorem dX0_evaluate_99 : decode cX0_evaluate 99 = .ok (.aload_n 0, 1) := by decide +kernel
theorem dX0_evaluate_100 : decode cX0_evaluate 100 = .ok (.lload 6, 2) := by decide +kernel
theorem dX0_evaluate_102 : decode cX0_evaluate 102 = .ok (.lload 8, 2) := by decide +kernel
theorem dX0_evaluate_104 : decode cX0_evaluate 104 = .ok (.invokevirtual 33, 3) := by decide +kernel
theorem dX0_evaluate_107 : decode cX0_evaluate 107 = .ok (.iinc 10 1, 3) := by decide +kernel
theorem dX0_evaluate_110 : decode cX0_evaluate 110 = .ok (.goto 51, 3) := by decide +kernel
theorem dX0_evaluate_113 : decode cX0_evaluate 113 = .ok (.iload 12, 2) := by decide +kernel
theorem dX0_evaluate_115 : decode cX0_evaluate 115 = .ok (.bipush (-14), 2) := by decide +kernel
theorem dX0_evaluate_117 : decode cX0_evaluate 117 = .ok (.if_icmp .ne 16, 3) := by decide +kernel
theorem dX0_evaluate_120 : decode cX0_evaluate 120 = .ok (.aload_n 1, 1) := by decide +kernel
theorem dX0_evaluate_121 : decode cX0_evaluate 121 = .ok (.iload 10, 2) := by decide +kernel
theorem dX0_evaluate_123 : decode cX0_evaluate 123 = .ok (.iconst 1, 1) := by decide +kernel
theorem dX0_evaluate_124 : decode cX0_evaluate 124 = .ok (.iadd, 1) := by decide +kernel
theorem dX0_evaluate_125 : decode cX0_evaluate 125 = .ok (.invokestatic 38, 3) := by decide +kernel
theorem dX0_evaluate_128 : decode cX0_evaluate 128 = .ok (.istore 10, 2) := by decide +kernel
theorem dX0_evaluate_130 : decode cX0_evaluate 130 = .ok (.goto 31, 3) := by decide +kernel
theorem dX0_evaluate_133 : decode cX0_evaluate 133 = .ok (.iload 12, 2) := by decide +kernel
theorem dX0_evaluate_135 : decode cX0_evaluate 135 = .ok (.bipush (-11), 2) := by decide +kernel
theorem dX0_evaluate_137 : decode cX0_evaluate 137 = .ok (.if_icmp .gt 15, 3) := by decide +kernel
theorem dX0_evaluate_140 : decode cX0_evaluate 140 = .ok (.aload_n 0, 1) := by decide +kernel
theorem dX0_evaluate_141 : decode cX0_evaluate 141 = .ok (.aload_n 1, 1) := by decide +kernel
theorem dX0_evaluate_142 : decode cX0_evaluate 142 = .ok (.iload 10, 2) := by decide +kernel
theorem dX0_evaluate_144 : decode cX0_evaluate 144 = .ok (.invokevirtual 42, 3) := by decide +kernel
theorem dX0_evaluate_147 : decode cX0_evaluate 147 = .ok (.istore 10, 2) := by decide +kernel
theorem dX0_evaluate_149 : decode cX0_evaluate 149 = .ok (.goto 12, 3) := by decide +kernel
theorem dX0_evaluate_152 : decode cX0_evaluate 152 = .ok (.aload_n 0, 1) := by decide +kernel
theorem dX0_evaluate_153 : decode cX0_evaluate 153 = .ok (.iload 12, 2) := by decide +kernel
theorem dX0_evaluate_155 : decode cX0_evaluate 155 = .ok (.invokevirtual 45, 3) := by decide +kernel
theorem dX0_evaluate_158 : decode cX0_evaluate 158 = .ok (.iinc 10 1, 3) := by decide +kernel
theorem dX0_evaluate_161 : decode cX0_evaluate 161 = .ok (.iinc 11 1, 3) := by decide +kernel
theorem dX0_evaluate_164 : decode cX0_evaluate 164 = .ok (.goto (-115), 3) := by decide +kernel
theorem dX0_evaluate_167 : decode cX0_evaluate 167 = .ok (.return_, 1) := by decide +kernel
theorem dX0_isNone_0 : decode cX0_isNone 0 = .ok (.aload_n 0, 1) := by decide +kernel
theorem dX0_isNone_1 : decode cX0_isNone 1 = .ok (.invokevirtual 30, 3) := by decide +kernel
theorem dX0_isNone_4 : decode cX0_isNone 4 = .ok (.lconst 0, 1) := by decide +kernel
theorem dX0_isNone_5 : decode cX0_isNone 5 = .ok (.lcmp, 1) := by decide +kernel
theorem dX0_isNone_6 : decode cX0_isNone 6 = .ok (.ifCond .ne 7, 3) := by decide +kernel
theorem dX0_isNone_9 : decode cX0_isNone 9 = .ok (.iconst 1, 1) := by decide +kernel
theorem dX0_isNone_10 : decode cX0_isNone 10 = .ok (.goto 4, 3) := by decide +kernel
theorem dX0_isNone_13 : decode cX0_isNone 13 = .ok (.iconst 0, 1) := by decide +kernel
theorem dX0_isNone_14 : decode cX0_isNone 14 = .ok (.ireturn, 1) := by decide +kernel
theorem dX0_numerator_0 : decode cX0_numerator 0 = .ok (.aload_n 0, 1) := by decide +kernel
theorem dX0_numerator_1 : decode cX0_numerator 1 = .ok (.getfield 18, 3) := by decide +kernel
theorem dX0_numerator_4 : decode cX0_numerator 4 = .ok (.iconst 1, 1) := by decide +kernel
theorem dX0_numerator_5 : decode cX0_numerator 5 = .ok (.if_icmp .lt 12, 3) := by decide +kernel
theorem dX0_numerator_8 : decode cX0_numerator 8 = .ok (.aload_n 0, 1) := by decide +kernel
theorem dX0_numerator_9 : decode cX0_numerator 9 = .ok (.getfield 18, 3) := by decide +kernel
theorem dX0_numerator_12 : decode cX0_numerator 12 = .ok (.bipush 64, 2) := by decide +kernel
theorem dX0_numerator_14 : decode cX0_numerator 14 = .ok (.if_icmp .le 7, 3) := by decide +kernel
theorem dX0_numerator_17 : decode cX0_numerator 17 = .ok (.lconst 0, 1) := by decide +kernel
theorem dX0_numerator_18 : decode cX0_numerator 18 = .ok (.goto 14, 3) := by decide +kernel
theorem dX0_numerator_21 : decode cX0_numerator 21 = .ok (.aload_n 0, 1) := by decide +kernel
theorem dX0_numerator_22 : decode cX0_numerator 22 = .ok (.getfield 11, 3) := by decide +kernel
theorem dX0_numerator_25 : decode cX0_numerator 25 = .ok (.aload_n 0, 1) := by decide +kernel
theorem dX0_numerator_26 : decode cX0_numerator 26 = .ok (.getfield 18, 3) := by decide +kernel
theorem dX0_numerator_29 : decode cX0_numerator 29 = .ok (.iconst 1, 1) := by decide +kernel
theorem dX0_numerator_30 : decode cX0_numerator 30 = .ok (.isub, 1) := by decide +kernel
theorem dX0_numerator_31 : decode cX0_numerator 31 = .ok (.laload, 1) := by decide +kernel
theorem dX0_numerator_32 : decode cX0_numerator 32 = .ok (.lreturn, 1) := by decide +kernel
theorem dX0_denominator_0 : decode cX0_denominator 0 = .ok (.aload_n 0, 1) := by decide +kernel
theorem dX0_denominator_1 : decode cX0_denominator 1 = .ok (.getfield 18, 3) := by decide +kernel
theorem dX0_denominator_4 : decode cX0_denominator 4 = .ok (.iconst 1, 1) := by decide +kernel
theorem dX0_denominator_5 : decode cX0_denominator 5 = .ok (.if_icmp .lt 12, 3) := by decide +kernel
theorem dX0_denominator_8 : decode cX0_denominator 8 = .ok (.aload_n 0, 1) := by decide +kernel
theorem dX0_denominator_9 : decode cX0_denominator 9 = .ok (.getfield 18, 3) := by decide +kernel
theorem dX0_denominator_12 : decode cX0_denominator 12 = .ok (.bipush 64, 2) := by decide +kernel
theorem dX0_denominator_14 : decode cX0_denominator 14 = .ok (.if_icmp .le 7, 3) := by decide +kernel
theorem dX0_denominator_17 : decode cX0_denominator 17 = .ok (.lconst 0, 1) := by decide +kernel
theorem dX0_denominator_18 : decode cX0_denominator 18 = .ok (.goto 14, 3) := by decide +kernel
theorem dX0_denominator_21 : decode cX0_denominator 21 = .ok (.aload_n 0, 1) := by decide +kernel
theorem dX0_denominator_22 : decode cX0_denominator 22 = .ok (.getfield 15, 3) := by decide +kernel
theorem dX0_denominator_25 : decode cX0_denominator 25 = .ok (.aload_n 0, 1) := by decide +kernel
theorem dX0_denominator_26 : decode cX0_denominator 26 = .ok (.getfield 18, 3) := by decide +kernel
theorem dX0_denominator_29 : decode cX0_denominator 29 = .ok (.iconst 1, 1) := by decide +kernel
theorem dX0_denominator_30 : decode cX0_denominator 30 = .ok (.isub, 1) := by decide +kernel
theorem dX0_denominator_31 : decode cX0_denominator 31 = .ok (.laload, 1) := by decide +kernel
theorem dX0_denominator_32 : decode cX0_denominator 32 = .ok (.lreturn, 1) := by decide +kernel
theorem dX0_rounded_0 : decode cX0_rounded 0 = .ok (.aload_n 0, 1) := by decide +kernel
theorem dX0_rounded_1 : decode cX0_rounded 1 = .ok (.invokevirtual 49, 3) := by decide +kernel
theorem dX0_rounded_4 : decode cX0_rounded 4 = .ok (.ifCond .eq 6, 3) := by decide +kernel
theorem dX0_rounded_7 : decode cX0_rounded 7 = .ok (.ldc 53, 2) := by decide +kernel
theorem dX0_rounded_9 : decode cX0_rounded 9 = .ok (.ireturn, 1) := by decide +kernel
theorem dX0_rounded_10 : decode cX0_rounded 10 = .ok (.aload_n 0, 1) := by decide +kernel
theorem dX0_rounded_11 : decode cX0_rounded 11 = .ok (.invokevirtual 26, 3) := by decide +kernel
theorem dX0_rounded_14 : decode cX0_rounded 14 = .ok (.iload_n 1, 1) := by decide +kernel
theorem dX0_rounded_15 : decode cX0_rounded 15 = .ok (.invokestatic 54, 3) := by decide +kernel
theorem dX0_rounded_18 : decode cX0_rounded 18 = .ok (.i2l, 1) := by decide +kernel
theorem dX0_rounded_19 : decode cX0_rounded 19 = .ok (.lmul, 1) := by decide +kernel
theorem dX0_rounded_20 : decode cX0_rounded 20 = .ok (.aload_n 0, 1) := by decide +kernel
theorem dX0_rounded_21 : decode cX0_rounded 21 = .ok (.invokevirtual 30, 3) := by decide +kernel
theorem dX0_rounded_24 : decode cX0_rounded 24 = .ok (.invokestatic 58, 3) := by decide +kernel
theorem dX0_rounded_27 : decode cX0_rounded 27 = .ok (.lstore_n 2, 1) := by decide +kernel
theorem dX0_rounded_28 : decode cX0_rounded 28 = .ok (.lload_n 2, 1) := by decide +kernel
theorem dX0_rounded_29 : decode cX0_rounded 29 = .ok (.ldc2_w 62, 3) := by decide +kernel
theorem dX0_rounded_32 : decode cX0_rounded 32 = .ok (.lcmp, 1) := by decide +kernel
theorem dX0_rounded_33 : decode cX0_rounded 33 = .ok (.ifCond .lt 11, 3) := by decide +kernel
theorem dX0_rounded_36 : decode cX0_rounded 36 = .ok (.lload_n 2, 1) := by decide +kernel
theorem dX0_rounded_37 : decode cX0_rounded 37 = .ok (.ldc2_w 64, 3) := by decide +kernel
theorem dX0_rounded_40 : decode cX0_rounded 40 = .ok (.lcmp, 1) := by decide +kernel
theorem dX0_rounded_41 : decode cX0_rounded 41 = .ok (.ifCond .le 8, 3) := by decide +kernel
theorem dX0_rounded_44 : decode cX0_rounded 44 = .ok (.ldc 53, 2) := by decide +kernel
theorem dX0_rounded_46 : decode cX0_rounded 46 = .ok (.goto 5, 3) := by decide +kernel
theorem dX0_rounded_49 : decode cX0_rounded 49 = .ok (.lload_n 2, 1) := by decide +kernel
theorem dX0_rounded_50 : decode cX0_rounded 50 = .ok (.l2i, 1) := by decide +kernel
theorem dX0_rounded_51 : decode cX0_rounded 51 = .ok (.ireturn, 1) := by decide +kernel
theorem dX0_placeIn_0 : decode cX0_placeIn 0 = .ok (.iload_n 1, 1) := by decide +kernel
theorem dX0_placeIn_1 : decode cX0_placeIn 1 = .ok (.ifCond .lt 9, 3) := by decide +kernel
theorem dX0_placeIn_4 : decode cX0_placeIn 4 = .ok (.iload_n 1, 1) := by decide +kernel
theorem dX0_placeIn_5 : decode cX0_placeIn 5 = .ok (.aload_n 0, 1) := by decide +kernel
theorem dX0_placeIn_6 : decode cX0_placeIn 6 = .ok (.arraylength, 1) := by decide +kernel
theorem dX0_placeIn_7 : decode cX0_placeIn 7 = .ok (.if_icmp .lt 8, 3) := by decide +kernel
theorem dX0_placeIn_10 : decode cX0_placeIn 10 = .ok (.aload_n 0, 1) := by decide +kernel
theorem dX0_placeIn_11 : decode cX0_placeIn 11 = .ok (.arraylength, 1) := by decide +kernel
theorem dX0_placeIn_12 : decode cX0_placeIn 12 = .ok (.goto 6, 3) := by decide +kernel
theorem dX0_placeIn_15 : decode cX0_placeIn 15 = .ok (.aload_n 0, 1) := by decide +kernel
theorem dX0_placeIn_16 : decode cX0_placeIn 16 = .ok (.iload_n 1, 1) := by decide +kernel
theorem dX0_placeIn_17 : decode cX0_placeIn 17 = .ok (.iaload, 1) := by decide +kernel
theorem dX0_placeIn_18 : decode cX0_placeIn 18 = .ok (.ireturn, 1) := by decide +kernel
theorem dX0_choose_0 : decode cX0_choose 0 = .ok (.aload_n 0, 1) := by decide +kernel
theorem dX0_choose_1 : decode cX0_choose 1 = .ok (.invokevirtual 26, 3) := by decide +kernel
theorem dX0_choose_4 : decode cX0_choose 4 = .ok (.lstore_n 3, 1) := by decide +kernel
theorem dX0_choose_5 : decode cX0_choose 5 = .ok (.aload_n 0, 1) := by decide +kernel
theorem dX0_choose_6 : decode cX0_choose 6 = .ok (.invokevirtual 30, 3) := by decide +kernel
theorem dX0_choose_9 : decode cX0_choose 9 = .ok (.lstore 5, 2) := by decide +kernel
theorem dX0_choose_11 : decode cX0_choose 11 = .ok (.aload_n 0, 1) := by decide +kernel
theorem dX0_choose_12 : decode cX0_choose 12 = .ok (.invokevirtual 66, 3) := by decide +kernel
theorem dX0_choose_15 : decode cX0_choose 15 = .ok (.aload_n 0, 1) := by decide +kernel
theorem dX0_choose_16 : decode cX0_choose 16 = .ok (.invokevirtual 26, 3) := by decide +kernel
theorem dX0_choose_19 : decode cX0_choose 19 = .ok (.lstore 7, 2) := by decide +kernel
theorem dX0_choose_21 : decode cX0_choose 21 = .ok (.aload_n 0, 1) := by decide +kernel
theorem dX0_choose_22 : decode cX0_choose 22 = .ok (.invokevirtual 30, 3) := by decide +kernel
theorem dX0_choose_25 : decode cX0_choose 25 = .ok (.lstore 9, 2) := by decide +kernel
theorem dX0_choose_27 : decode cX0_choose 27 = .ok (.aload_n 0, 1) := by decide +kernel
theorem dX0_choose_28 : decode cX0_choose 28 = .ok (.invokevirtual 66, 3) := by decide +kernel
theorem dX0_choose_31 : decode cX0_choose 31 = .ok (.lload 9, 2) := by decide +kernel
theorem dX0_choose_33 : decode cX0_choose 33 = .ok (.lconst 0, 1) := by decide +kernel
theorem dX0_choose_34 : decode cX0_choose 34 = .ok (.lcmp, 1) := by decide +kernel
theorem dX0_choose_35 : decode cX0_choose 35 = .ok (.ifCond .eq 10, 3) := by decide +kernel
theorem dX0_choose_38 : decode cX0_choose 38 = .ok (.lload 5, 2) := by decide +kernel
theorem dX0_choose_40 : decode cX0_choose 40 = .ok (.lconst 0, 1) := by decide +kernel
theorem dX0_choose_41 : decode cX0_choose 41 = .ok (.lcmp, 1) := by decide +kernel
theorem dX0_choose_42 : decode cX0_choose 42 = .ok (.ifCond .ne 17, 3) := by decide +kernel
theorem dX0_choose_45 : decode cX0_choose 45 = .ok (.aload_n 0, 1) := by decide +kernel
theorem dX0_choose_46 : decode cX0_choose 46 = .ok (.lconst 0, 1) := by decide +kernel
theorem dX0_choose_47 : decode cX0_choose 47 = .ok (.lconst 0, 1) := by decide +kernel
theorem dX0_choose_48 : decode cX0_choose 48 = .ok (.invokevirtual 33, 3) := by decide +kernel
theorem dX0_choose_51 : decode cX0_choose 51 = .ok (.aload_n 1, 1) := by decide +kernel
theorem dX0_choose_52 : decode cX0_choose 52 = .ok (.iload_n 2, 1) := by decide +kernel
theorem dX0_choose_53 : decode cX0_choose 53 = .ok (.iconst 2, 1) := by decide +kernel
theorem dX0_choose_54 : decode cX0_choose 54 = .ok (.iadd, 1) := by decide +kernel
theorem dX0_choose_55 : decode cX0_choose 55 = .ok (.invokestatic 38, 3) := by decide +kernel
theorem dX0_choose_58 : decode cX0_choose 58 = .ok (.ireturn, 1) := by decide +kernel
theorem dX0_choose_59 : decode cX0_choose 59 = .ok (.lload 7, 2) := by decide +kernel
theorem dX0_choose_61 : decode cX0_choose 61 = .ok (.lload 5, 2) := by decide +kernel
theorem dX0_choose_63 : decode cX0_choose 63 = .ok (.lmul, 1) := by decide +kernel
theorem dX0_choose_64 : decode cX0_choose 64 = .ok (.lload_n 3, 1) := by decide +kernel
theorem dX0_choose_65 : decode cX0_choose 65 = .ok (.lload 9, 2) := by decide +kernel
theorem dX0_choose_67 : decode cX0_choose 67 = .ok (.lmul, 1) := by decide +kernel
theorem dX0_choose_68 : decode cX0_choose 68 = .ok (.invokestatic 69, 3) := by decide +kernel
theorem dX0_choose_71 : decode cX0_choose 71 = .ok (.istore 11, 2) := by decide +kernel
theorem dX0_choose_73 : decode cX0_choose 73 = .ok (.aload_n 1, 1) := by decide +kernel
theorem dX0_choose_74 : decode cX0_choose 74 = .ok (.arraylength, 1) := by decide +kernel
theorem dX0_choose_75 : decode cX0_choose 75 = .ok (.iload_n 2, 1) := by decide +kernel
theorem dX0_choose_76 : decode cX0_choose 76 = .ok (.if_icmp .le 13, 3) := by decide +kernel
theorem dX0_choose_79 : decode cX0_choose 79 = .ok (.iload_n 2, 1) := by decide +kernel
theorem dX0_choose_80 : decode cX0_choose 80 = .ok (.ifCond .lt 9, 3) := by decide +kernel
theorem dX0_choose_83 : decode cX0_choose 83 = .ok (.aload_n 1, 1) := by decide +kernel
theorem dX0_choose_84 : decode cX0_choose 84 = .ok (.iload_n 2, 1) := by decide +kernel
theorem dX0_choose_85 : decode cX0_choose 85 = .ok (.iaload, 1) := by decide +kernel
theorem dX0_choose_86 : decode cX0_choose 86 = .ok (.goto 4, 3) := by decide +kernel
theorem dX0_choose_89 : decode cX0_choose 89 = .ok (.iconst 0, 1) := by decide +kernel
theorem dX0_choose_90 : decode cX0_choose 90 = .ok (.istore 12, 2) := by decide +kernel
theorem dX0_choose_92 : decode cX0_choose 92 = .ok (.iload 12, 2) := by decide +kernel
theorem dX0_choose_94 : decode cX0_choose 94 = .ok (.bipush (-11), 2) := by decide +kernel
theorem dX0_choose_96 : decode cX0_choose 96 = .ok (.if_icmp .ne 16, 3) := by decide +kernel
theorem dX0_choose_99 : decode cX0_choose 99 = .ok (.iload 11, 2) := by decide +kernel
theorem dX0_choose_101 : decode cX0_choose 101 = .ok (.ifCond .ge 7, 3) := by decide +kernel
theorem dX0_choose_104 : decode cX0_choose 104 = .ok (.iconst 1, 1) := by decide +kernel
theorem dX0_choose_105 : decode cX0_choose 105 = .ok (.goto 37, 3) := by decide +kernel
theorem dX0_choose_108 : decode cX0_choose 108 = .ok (.iconst 0, 1) := by decide +kernel
theorem dX0_choose_109 : decode cX0_choose 109 = .ok (.goto 33, 3) := by decide +kernel
theorem dX0_choose_112 : decode cX0_choose 112 = .ok (.iload 12, 2) := by decide +kernel
theorem dX0_choose_114 : decode cX0_choose 114 = .ok (.bipush (-12), 2) := by decide +kernel
theorem dX0_choose_116 : decode cX0_choose 116 = .ok (.if_icmp .ne 16, 3) := by decide +kernel
theorem dX0_choose_119 : decode cX0_choose 119 = .ok (.iload 11, 2) := by decide +kernel
theorem dX0_choose_121 : decode cX0_choose 121 = .ok (.ifCond .le 7, 3) := by decide +kernel
theorem dX0_choose_124 : decode cX0_choose 124 = .ok (.iconst 1, 1) := by decide +kernel
theorem dX0_choose_125 : decode cX0_choose 125 = .ok (.goto 17, 3) := by decide +kernel
theorem dX0_choose_128 : decode cX0_choose 128 = .ok (.iconst 0, 1) := by decide +kernel
theorem dX0_choose_129 : decode cX0_choose 129 = .ok (.goto 13, 3) := by decide +kernel
theorem dX0_choose_132 : decode cX0_choose 132 = .ok (.iload 11, 2) := by decide +kernel
theorem dX0_choose_134 : decode cX0_choose 134 = .ok (.ifCond .ne 7, 3) := by decide +kernel
theorem dX0_choose_137 : decode cX0_choose 137 = .ok (.iconst 1, 1) := by decide +kernel
theorem dX0_choose_138 : decode cX0_choose 138 = .ok (.goto 4, 3) := by decide +kernel
theorem dX0_choose_141 : decode cX0_choose 141 = .ok (.iconst 0, 1) := by decide +kernel
theorem dX0_choose_142 : decode cX0_choose 142 = .ok (.istore 13, 2) := by decide +kernel
theorem dX0_choose_144 : decode cX0_choose 144 = .ok (.iload 13, 2) := by decide +kernel
theorem dX0_choose_146 : decode cX0_choose 146 = .ok (.ifCond .eq 9, 3) := by decide +kernel
theorem dX0_choose_149 : decode cX0_choose 149 = .ok (.iload_n 2, 1) := by decide +kernel
theorem dX0_choose_150 : decode cX0_choose 150 = .ok (.iconst 3, 1) := by decide +kernel
theorem dX0_choose_151 : decode cX0_choose 151 = .ok (.iadd, 1) := by decide +kernel
theorem dX0_choose_152 : decode cX0_choose 152 = .ok (.goto 10, 3) := by decide +kernel
theorem dX0_choose_155 : decode cX0_choose 155 = .ok (.aload_n 1, 1) := by decide +kernel
theorem dX0_choose_156 : decode cX0_choose 156 = .ok (.iload_n 2, 1) := by decide +kernel
theorem dX0_choose_157 : decode cX0_choose 157 = .ok (.iconst 1, 1) := by decide +kernel
theorem dX0_choose_158 : decode cX0_choose 158 = .ok (.iadd, 1) := by decide +kernel
theorem dX0_choose_159 : decode cX0_choose 159 = .ok (.invokestatic 38, 3) := by decide +kernel
theorem dX0_choose_162 : decode cX0_choose 162 = .ok (.ireturn, 1) := by decide +kernel
theorem dX0_apply_0 : decode cX0_apply 0 = .ok (.aload_n 0, 1) := by decide +kernel
theorem dX0_apply_1 : decode cX0_apply 1 = .ok (.invokevirtual 26, 3) := by decide +kernel
theorem dX0_apply_4 : decode cX0_apply 4 = .ok (.lstore_n 2, 1) := by decide +kernel
theorem dX0_apply_5 : decode cX0_apply 5 = .ok (.aload_n 0, 1) := by decide +kernel
theorem dX0_apply_6 : decode cX0_apply 6 = .ok (.invokevirtual 30, 3) := by decide +kernel
theorem dX0_apply_9 : decode cX0_apply 9 = .ok (.lstore 4, 2) := by decide +kernel
theorem dX0_apply_11 : decode cX0_apply 11 = .ok (.aload_n 0, 1) := by decide +kernel
theorem dX0_apply_12 : decode cX0_apply 12 = .ok (.invokevirtual 66, 3) := by decide +kernel
theorem dX0_apply_15 : decode cX0_apply 15 = .ok (.iload_n 1, 1) := by decide +kernel
theorem dX0_apply_16 : decode cX0_apply 16 = .ok (.tableswitch 85 (-8) (-6) #[49, 39, 28], 28) := by decide +kernel
theorem dX0_apply_44 : decode cX0_apply 44 = .ok (.aload_n 0, 1) := by decide +kernel
theorem dX0_apply_45 : decode cX0_apply 45 = .ok (.lload_n 2, 1) := by decide +kernel
theorem dX0_apply_46 : decode cX0_apply 46 = .ok (.lneg, 1) := by decide +kernel
theorem dX0_apply_47 : decode cX0_apply 47 = .ok (.lload 4, 2) := by decide +kernel
theorem dX0_apply_49 : decode cX0_apply 49 = .ok (.invokevirtual 33, 3) := by decide +kernel
theorem dX0_apply_52 : decode cX0_apply 52 = .ok (.goto 57, 3) := by decide +kernel
theorem dX0_apply_55 : decode cX0_apply 55 = .ok (.aload_n 0, 1) := by decide +kernel
theorem dX0_apply_56 : decode cX0_apply 56 = .ok (.lload_n 2, 1) := by decide +kernel
theorem dX0_apply_57 : decode cX0_apply 57 = .ok (.lload 4, 2) := by decide +kernel
theorem dX0_apply_59 : decode cX0_apply 59 = .ok (.invokevirtual 75, 3) := by decide +kernel
theorem dX0_apply_62 : decode cX0_apply 62 = .ok (.goto 47, 3) := by decide +kernel
theorem dX0_apply_65 : decode cX0_apply 65 = .ok (.aload_n 0, 1) := by decide +kernel
theorem dX0_apply_66 : decode cX0_apply 66 = .ok (.lload 4, 2) := by decide +kernel
theorem dX0_apply_68 : decode cX0_apply 68 = .ok (.lconst 0, 1) := by decide +kernel
theorem dX0_apply_69 : decode cX0_apply 69 = .ok (.lcmp, 1) := by decide +kernel
theorem dX0_apply_70 : decode cX0_apply 70 = .ok (.ifCond .le 12, 3) := by decide +kernel
theorem dX0_apply_73 : decode cX0_apply 73 = .ok (.lload_n 2, 1) := by decide +kernel
theorem dX0_apply_74 : decode cX0_apply 74 = .ok (.lload 4, 2) := by decide +kernel
theorem dX0_apply_76 : decode cX0_apply 76 = .ok (.invokestatic 78, 3) := by decide +kernel
theorem dX0_apply_79 : decode cX0_apply 79 = .ok (.goto 4, 3) := by decide +kernel
theorem dX0_apply_82 : decode cX0_apply 82 = .ok (.lconst 0, 1) := by decide +kernel
theorem dX0_apply_83 : decode cX0_apply 83 = .ok (.lload 4, 2) := by decide +kernel
theorem dX0_apply_85 : decode cX0_apply 85 = .ok (.lconst 0, 1) := by decide +kernel
theorem dX0_apply_86 : decode cX0_apply 86 = .ok (.lcmp, 1) := by decide +kernel
theorem dX0_apply_87 : decode cX0_apply 87 = .ok (.ifCond .le 7, 3) := by decide +kernel
theorem dX0_apply_90 : decode cX0_apply 90 = .ok (.lconst 1, 1) := by decide +kernel
theorem dX0_apply_91 : decode cX0_apply 91 = .ok (.goto 4, 3) := by decide +kernel
theorem dX0_apply_94 : decode cX0_apply 94 = .ok (.lconst 0, 1) := by decide +kernel
theorem dX0_apply_95 : decode cX0_apply 95 = .ok (.invokevirtual 22, 3) := by decide +kernel
theorem dX0_apply_98 : decode cX0_apply 98 = .ok (.goto 11, 3) := by decide +kernel
theorem dX0_apply_101 : decode cX0_apply 101 = .ok (.aload_n 0, 1) := by decide +kernel
theorem dX0_apply_102 : decode cX0_apply 102 = .ok (.iload_n 1, 1) := by decide +kernel
theorem dX0_apply_103 : decode cX0_apply 103 = .ok (.lload_n 2, 1) := by decide +kernel
theorem dX0_apply_104 : decode cX0_apply 104 = .ok (.lload 4, 2) := by decide +kernel
theorem dX0_apply_106 : decode cX0_apply 106 = .ok (.invokevirtual 83, 3) := by decide +kernel
theorem dX0_apply_109 : decode cX0_apply 109 = .ok (.return_, 1) := by decide +kernel
theorem dX0_applyToTwo_0 : decode cX0_applyToTwo 0 = .ok (.aload_n 0, 1) := by decide +kernel
theorem dX0_applyToTwo_1 : decode cX0_applyToTwo 1 = .ok (.invokevirtual 26, 3) := by decide +kernel
theorem dX0_applyToTwo_4 : decode cX0_applyToTwo 4 = .ok (.lstore 6, 2) := by decide +kernel
theorem dX0_applyToTwo_6 : decode cX0_applyToTwo 6 = .ok (.aload_n 0, 1) := by decide +kernel
theorem dX0_applyToTwo_7 : decode cX0_applyToTwo 7 = .ok (.invokevirtual 30, 3) := by decide +kernel
theorem dX0_applyToTwo_10 : decode cX0_applyToTwo 10 = .ok (.lstore 8, 2) := by decide +kernel
theorem dX0_applyToTwo_12 : decode cX0_applyToTwo 12 = .ok (.aload_n 0, 1) := by decide +kernel
theorem dX0_applyToTwo_13 : decode cX0_applyToTwo 13 = .ok (.invokevirtual 66, 3) := by decide +kernel
theorem dX0_applyToTwo_16 : decode cX0_applyToTwo 16 = .ok (.iload_n 1, 1) := by decide +kernel
theorem dX0_applyToTwo_17 : decode cX0_applyToTwo 17 = .ok (.tableswitch 155 (-9) (-2) #[123, 155, 155, 155, 107, 91, 69, 47], 47) := by decide +kernel
theorem dX0_applyToTwo_64 : decode cX0_applyToTwo 64 = .ok (.aload_n 0, 1) := by decide +kernel
theorem dX0_applyToTwo_65 : decode cX0_applyToTwo 65 = .ok (.lload 6, 2) := by decide +kernel
theorem dX0_applyToTwo_67 : decode cX0_applyToTwo 67 = .ok (.lload 4, 2) := by decide +kernel
theorem dX0_applyToTwo_69 : decode cX0_applyToTwo 69 = .ok (.lmul, 1) := by decide +kernel
theorem dX0_applyToTwo_70 : decode cX0_applyToTwo 70 = .ok (.lload_n 2, 1) := by decide +kernel
theorem dX0_applyToTwo_71 : decode cX0_applyToTwo 71 = .ok (.lload 8, 2) := by decide +kernel
theorem dX0_applyToTwo_73 : decode cX0_applyToTwo 73 = .ok (.lmul, 1) := by decide +kernel
theorem dX0_applyToTwo_74 : decode cX0_applyToTwo 74 = .ok (.ladd, 1) := by decide +kernel
theorem dX0_applyToTwo_75 : decode cX0_applyToTwo 75 = .ok (.lload 8, 2) := by decide +kernel
theorem dX0_applyToTwo_77 : decode cX0_applyToTwo 77 = .ok (.lload 4, 2) := by decide +kernel
theorem dX0_applyToTwo_79 : decode cX0_applyToTwo 79 = .ok (.lmul, 1) := by decide +kernel
theorem dX0_applyToTwo_80 : decode cX0_applyToTwo 80 = .ok (.invokevirtual 22, 3) := by decide +kernel
theorem dX0_applyToTwo_83 : decode cX0_applyToTwo 83 = .ok (.goto 118, 3) := by decide +kernel
theorem dX0_applyToTwo_86 : decode cX0_applyToTwo 86 = .ok (.aload_n 0, 1) := by decide +kernel
theorem dX0_applyToTwo_87 : decode cX0_applyToTwo 87 = .ok (.lload 6, 2) := by decide +kernel
theorem dX0_applyToTwo_89 : decode cX0_applyToTwo 89 = .ok (.lload 4, 2) := by decide +kernel
theorem dX0_applyToTwo_91 : decode cX0_applyToTwo 91 = .ok (.lmul, 1) := by decide +kernel
theorem dX0_applyToTwo_92 : decode cX0_applyToTwo 92 = .ok (.lload_n 2, 1) := by decide +kernel
theorem dX0_applyToTwo_93 : decode cX0_applyToTwo 93 = .ok (.lload 8, 2) := by decide +kernel
theorem dX0_applyToTwo_95 : decode cX0_applyToTwo 95 = .ok (.lmul, 1) := by decide +kernel
theorem dX0_applyToTwo_96 : decode cX0_applyToTwo 96 = .ok (.lsub, 1) := by decide +kernel
theorem dX0_applyToTwo_97 : decode cX0_applyToTwo 97 = .ok (.lload 8, 2) := by decide +kernel
theorem dX0_applyToTwo_99 : decode cX0_applyToTwo 99 = .ok (.lload 4, 2) := by decide +kernel
theorem dX0_applyToTwo_101 : decode cX0_applyToTwo 101 = .ok (.lmul, 1) := by decide +kernel
theorem dX0_applyToTwo_102 : decode cX0_applyToTwo 102 = .ok (.invokevirtual 22, 3) := by decide +kernel
theorem dX0_applyToTwo_105 : decode cX0_applyToTwo 105 = .ok (.goto 96, 3) := by decide +kernel
theorem dX0_applyToTwo_108 : decode cX0_applyToTwo 108 = .ok (.aload_n 0, 1) := by decide +kernel
theorem dX0_applyToTwo_109 : decode cX0_applyToTwo 109 = .ok (.lload 6, 2) := by decide +kernel
theorem dX0_applyToTwo_111 : decode cX0_applyToTwo 111 = .ok (.lload_n 2, 1) := by decide +kernel
theorem dX0_applyToTwo_112 : decode cX0_applyToTwo 112 = .ok (.lmul, 1) := by decide +kernel
theorem dX0_applyToTwo_113 : decode cX0_applyToTwo 113 = .ok (.lload 8, 2) := by decide +kernel
theorem dX0_applyToTwo_115 : decode cX0_applyToTwo 115 = .ok (.lload 4, 2) := by decide +kernel
theorem dX0_applyToTwo_117 : decode cX0_applyToTwo 117 = .ok (.lmul, 1) := by decide +kernel
theorem dX0_applyToTwo_118 : decode cX0_applyToTwo 118 = .ok (.invokevirtual 22, 3) := by decide +kernel
theorem dX0_applyToTwo_121 : decode cX0_applyToTwo 121 = .ok (.goto 80, 3) := by decide +kernel
theorem dX0_applyToTwo_124 : decode cX0_applyToTwo 124 = .ok (.aload_n 0, 1) := by decide +kernel
theorem dX0_applyToTwo_125 : decode cX0_applyToTwo 125 = .ok (.lload 6, 2) := by decide +kernel
theorem dX0_applyToTwo_127 : decode cX0_applyToTwo 127 = .ok (.lload 4, 2) := by decide +kernel
theorem dX0_applyToTwo_129 : decode cX0_applyToTwo 129 = .ok (.lmul, 1) := by decide +kernel
theorem dX0_applyToTwo_130 : decode cX0_applyToTwo 130 = .ok (.lload 8, 2) := by decide +kernel
theorem dX0_applyToTwo_132 : decode cX0_applyToTwo 132 = .ok (.lload_n 2, 1) := by decide +kernel
theorem dX0_applyToTwo_133 : decode cX0_applyToTwo 133 = .ok (.lmul, 1) := by decide +kernel
theorem dX0_applyToTwo_134 : decode cX0_applyToTwo 134 = .ok (.invokevirtual 22, 3) := by decide +kernel
theorem dX0_applyToTwo_137 : decode cX0_applyToTwo 137 = .ok (.goto 64, 3) := by decide +kernel
theorem dX0_applyToTwo_140 : decode cX0_applyToTwo 140 = .ok (.aload_n 0, 1) := by decide +kernel
theorem dX0_applyToTwo_141 : decode cX0_applyToTwo 141 = .ok (.lload 6, 2) := by decide +kernel
theorem dX0_applyToTwo_143 : decode cX0_applyToTwo 143 = .ok (.lload 4, 2) := by decide +kernel
theorem dX0_applyToTwo_145 : decode cX0_applyToTwo 145 = .ok (.lmul, 1) := by decide +kernel
theorem dX0_applyToTwo_146 : decode cX0_applyToTwo 146 = .ok (.lload_n 2, 1) := by decide +kernel
theorem dX0_applyToTwo_147 : decode cX0_applyToTwo 147 = .ok (.lload 8, 2) := by decide +kernel
theorem dX0_applyToTwo_149 : decode cX0_applyToTwo 149 = .ok (.lmul, 1) := by decide +kernel
theorem dX0_applyToTwo_150 : decode cX0_applyToTwo 150 = .ok (.lcmp, 1) := by decide +kernel
theorem dX0_applyToTwo_151 : decode cX0_applyToTwo 151 = .ok (.ifCond .gt 7, 3) := by decide +kernel
theorem dX0_applyToTwo_154 : decode cX0_applyToTwo 154 = .ok (.iconst 1, 1) := by decide +kernel
theorem dX0_applyToTwo_155 : decode cX0_applyToTwo 155 = .ok (.goto 4, 3) := by decide +kernel
theorem dX0_applyToTwo_158 : decode cX0_applyToTwo 158 = .ok (.iconst 0, 1) := by decide +kernel
theorem dX0_applyToTwo_159 : decode cX0_applyToTwo 159 = .ok (.lload 6, 2) := by decide +kernel
theorem dX0_applyToTwo_161 : decode cX0_applyToTwo 161 = .ok (.lload 8, 2) := by decide +kernel
theorem dX0_applyToTwo_163 : decode cX0_applyToTwo 163 = .ok (.lload_n 2, 1) := by decide +kernel
theorem dX0_applyToTwo_164 : decode cX0_applyToTwo 164 = .ok (.lload 4, 2) := by decide +kernel
theorem dX0_applyToTwo_166 : decode cX0_applyToTwo 166 = .ok (.invokevirtual 87, 3) := by decide +kernel
theorem dX0_applyToTwo_169 : decode cX0_applyToTwo 169 = .ok (.goto 32, 3) := by decide +kernel
theorem dX0_applyToTwo_172 : decode cX0_applyToTwo 172 = .ok (.aload_n 0, 1) := by decide +kernel
theorem dX0_applyToTwo_173 : decode cX0_applyToTwo 173 = .ok (.lload 6, 2) := by decide +kernel
theorem dX0_applyToTwo_175 : decode cX0_applyToTwo 175 = .ok (.lload 4, 2) := by decide +kernel
theorem dX0_applyToTwo_177 : decode cX0_applyToTwo 177 = .ok (.lmul, 1) := by decide +kernel
theorem dX0_applyToTwo_178 : decode cX0_applyToTwo 178 = .ok (.lload_n 2, 1) := by decide +kernel
theorem dX0_applyToTwo_179 : decode cX0_applyToTwo 179 = .ok (.lload 8, 2) := by decide +kernel
theorem dX0_applyToTwo_181 : decode cX0_applyToTwo 181 = .ok (.lmul, 1) := by decide +kernel
theorem dX0_applyToTwo_182 : decode cX0_applyToTwo 182 = .ok (.lcmp, 1) := by decide +kernel
theorem dX0_applyToTwo_183 : decode cX0_applyToTwo 183 = .ok (.ifCond .lt 7, 3) := by decide +kernel
theorem dX0_applyToTwo_186 : decode cX0_applyToTwo 186 = .ok (.iconst 1, 1) := by decide +kernel
theorem dX0_applyToTwo_187 : decode cX0_applyToTwo 187 = .ok (.goto 4, 3) := by decide +kernel
theorem dX0_applyToTwo_190 : decode cX0_applyToTwo 190 = .ok (.iconst 0, 1) := by decide +kernel
theorem dX0_applyToTwo_191 : decode cX0_applyToTwo 191 = .ok (.lload 6, 2) := by decide +kernel
theorem dX0_applyToTwo_193 : decode cX0_applyToTwo 193 = .ok (.lload 8, 2) := by decide +kernel
theorem dX0_applyToTwo_195 : decode cX0_applyToTwo 195 = .ok (.lload_n 2, 1) := by decide +kernel
theorem dX0_applyToTwo_196 : decode cX0_applyToTwo 196 = .ok (.lload 4, 2) := by decide +kernel
theorem dX0_applyToTwo_198 : decode cX0_applyToTwo 198 = .ok (.invokevirtual 87, 3) := by decide +kernel
theorem dX0_applyToTwo_201 : decode cX0_applyToTwo 201 = .ok (.return_, 1) := by decide +kernel
theorem dX0_pushOne_0 : decode cX0_pushOne 0 = .ok (.lload 4, 2) := by decide +kernel
theorem dX0_pushOne_2 : decode cX0_pushOne 2 = .ok (.lconst 0, 1) := by decide +kernel
theorem dX0_pushOne_3 : decode cX0_pushOne 3 = .ok (.lcmp, 1) := by decide +kernel
theorem dX0_pushOne_4 : decode cX0_pushOne 4 = .ok (.ifCond .eq 10, 3) := by decide +kernel
theorem dX0_pushOne_7 : decode cX0_pushOne 7 = .ok (.lload 8, 2) := by decide +kernel
theorem dX0_pushOne_9 : decode cX0_pushOne 9 = .ok (.lconst 0, 1) := by decide +kernel
theorem dX0_pushOne_10 : decode cX0_pushOne 10 = .ok (.lcmp, 1) := by decide +kernel
theorem dX0_pushOne_11 : decode cX0_pushOne 11 = .ok (.ifCond .ne 12, 3) := by decide +kernel
theorem dX0_pushOne_14 : decode cX0_pushOne 14 = .ok (.aload_n 0, 1) := by decide +kernel
theorem dX0_pushOne_15 : decode cX0_pushOne 15 = .ok (.lconst 0, 1) := by decide +kernel
theorem dX0_pushOne_16 : decode cX0_pushOne 16 = .ok (.lconst 0, 1) := by decide +kernel
theorem dX0_pushOne_17 : decode cX0_pushOne 17 = .ok (.invokevirtual 33, 3) := by decide +kernel
theorem dX0_pushOne_20 : decode cX0_pushOne 20 = .ok (.goto 25, 3) := by decide +kernel
theorem dX0_pushOne_23 : decode cX0_pushOne 23 = .ok (.iload_n 1, 1) := by decide +kernel
theorem dX0_pushOne_24 : decode cX0_pushOne 24 = .ok (.ifCond .eq 13, 3) := by decide +kernel
theorem dX0_pushOne_27 : decode cX0_pushOne 27 = .ok (.aload_n 0, 1) := by decide +kernel
theorem dX0_pushOne_28 : decode cX0_pushOne 28 = .ok (.lload_n 2, 1) := by decide +kernel
theorem dX0_pushOne_29 : decode cX0_pushOne 29 = .ok (.lload 4, 2) := by decide +kernel
theorem dX0_pushOne_31 : decode cX0_pushOne 31 = .ok (.invokevirtual 33, 3) := by decide +kernel
theorem dX0_pushOne_34 : decode cX0_pushOne 34 = .ok (.goto 11, 3) := by decide +kernel
theorem dX0_pushOne_37 : decode cX0_pushOne 37 = .ok (.aload_n 0, 1) := by decide +kernel
theorem dX0_pushOne_38 : decode cX0_pushOne 38 = .ok (.lload 6, 2) := by decide +kernel
theorem dX0_pushOne_40 : decode cX0_pushOne 40 = .ok (.lload 8, 2) := by decide +kernel
theorem dX0_pushOne_42 : decode cX0_pushOne 42 = .ok (.invokevirtual 33, 3) := by decide +kernel
theorem dX0_pushOne_45 : decode cX0_pushOne 45 = .ok (.return_, 1) := by decide +kernel
theorem dX0_pushRoot_0 : decode cX0_pushRoot 0 = .ok (.lload_n 1, 1) := by decide +kernel
theorem dX0_pushRoot_1 : decode cX0_pushRoot 1 = .ok (.lconst 0, 1) := by decide +kernel
theorem dX0_pushRoot_2 : decode cX0_pushRoot 2 = .ok (.lcmp, 1) := by decide +kernel
theorem dX0_pushRoot_3 : decode cX0_pushRoot 3 = .ok (.ifCond .lt 9, 3) := by decide +kernel
theorem dX0_pushRoot_6 : decode cX0_pushRoot 6 = .ok (.lload_n 3, 1) := by decide +kernel
theorem dX0_pushRoot_7 : decode cX0_pushRoot 7 = .ok (.lconst 0, 1) := by decide +kernel
theorem dX0_pushRoot_8 : decode cX0_pushRoot 8 = .ok (.lcmp, 1) := by decide +kernel
theorem dX0_pushRoot_9 : decode cX0_pushRoot 9 = .ok (.ifCond .gt 10, 3) := by decide +kernel
theorem dX0_pushRoot_12 : decode cX0_pushRoot 12 = .ok (.aload_n 0, 1) := by decide +kernel
theorem dX0_pushRoot_13 : decode cX0_pushRoot 13 = .ok (.lconst 0, 1) := by decide +kernel
theorem dX0_pushRoot_14 : decode cX0_pushRoot 14 = .ok (.lconst 0, 1) := by decide +kernel
theorem dX0_pushRoot_15 : decode cX0_pushRoot 15 = .ok (.invokevirtual 33, 3) := by decide +kernel
theorem dX0_pushRoot_18 : decode cX0_pushRoot 18 = .ok (.return_, 1) := by decide +kernel
theorem dX0_pushRoot_19 : decode cX0_pushRoot 19 = .ok (.lload_n 1, 1) := by decide +kernel
theorem dX0_pushRoot_20 : decode cX0_pushRoot 20 = .ok (.ldc2_w 91, 3) := by decide +kernel
theorem dX0_pushRoot_23 : decode cX0_pushRoot 23 = .ok (.lmul, 1) := by decide +kernel
theorem dX0_pushRoot_24 : decode cX0_pushRoot 24 = .ok (.lload_n 3, 1) := by decide +kernel
theorem dX0_pushRoot_25 : decode cX0_pushRoot 25 = .ok (.ldiv, 1) := by decide +kernel
theorem dX0_pushRoot_26 : decode cX0_pushRoot 26 = .ok (.lstore 5, 2) := by decide +kernel
theorem dX0_pushRoot_28 : decode cX0_pushRoot 28 = .ok (.lconst 0, 1) := by decide +kernel
theorem dX0_pushRoot_29 : decode cX0_pushRoot 29 = .ok (.lstore 7, 2) := by decide +kernel
theorem dX0_pushRoot_31 : decode cX0_pushRoot 31 = .ok (.ldc2_w 93, 3) := by decide +kernel
theorem dX0_pushRoot_34 : decode cX0_pushRoot 34 = .ok (.lstore 9, 2) := by decide +kernel
theorem dX0_pushRoot_36 : decode cX0_pushRoot 36 = .ok (.iconst 0, 1) := by decide +kernel
theorem dX0_pushRoot_37 : decode cX0_pushRoot 37 = .ok (.istore 11, 2) := by decide +kernel
theorem dX0_pushRoot_39 : decode cX0_pushRoot 39 = .ok (.iload 11, 2) := by decide +kernel
theorem dX0_pushRoot_41 : decode cX0_pushRoot 41 = .ok (.bipush 64, 2) := by decide +kernel
theorem dX0_pushRoot_43 : decode cX0_pushRoot 43 = .ok (.if_icmp .ge 54, 3) := by decide +kernel
theorem dX0_pushRoot_46 : decode cX0_pushRoot 46 = .ok (.lload 7, 2) := by decide +kernel
theorem dX0_pushRoot_48 : decode cX0_pushRoot 48 = .ok (.lload 9, 2) := by decide +kernel
theorem dX0_pushRoot_50 : decode cX0_pushRoot 50 = .ok (.lcmp, 1) := by decide +kernel
theorem dX0_pushRoot_51 : decode cX0_pushRoot 51 = .ok (.ifCond .ge 46, 3) := by decide +kernel
theorem dX0_pushRoot_54 : decode cX0_pushRoot 54 = .ok (.lload 7, 2) := by decide +kernel
theorem dX0_pushRoot_56 : decode cX0_pushRoot 56 = .ok (.lload 9, 2) := by decide +kernel
theorem dX0_pushRoot_58 : decode cX0_pushRoot 58 = .ok (.ladd, 1) := by decide +kernel
theorem dX0_pushRoot_59 : decode cX0_pushRoot 59 = .ok (.lconst 1, 1) := by decide +kernel
theorem dX0_pushRoot_60 : decode cX0_pushRoot 60 = .ok (.ladd, 1) := by decide +kernel
theorem dX0_pushRoot_61 : decode cX0_pushRoot 61 = .ok (.ldc2_w 95, 3) := by decide +kernel
theorem dX0_pushRoot_64 : decode cX0_pushRoot 64 = .ok (.ldiv, 1) := by decide +kernel
theorem dX0_pushRoot_65 : decode cX0_pushRoot 65 = .ok (.lstore 12, 2) := by decide +kernel
theorem dX0_pushRoot_67 : decode cX0_pushRoot 67 = .ok (.lload 12, 2) := by decide +kernel
theorem dX0_pushRoot_69 : decode cX0_pushRoot 69 = .ok (.lload 12, 2) := by decide +kernel
theorem dX0_pushRoot_71 : decode cX0_pushRoot 71 = .ok (.lmul, 1) := by decide +kernel
theorem dX0_pushRoot_72 : decode cX0_pushRoot 72 = .ok (.lload 5, 2) := by decide +kernel
theorem dX0_pushRoot_74 : decode cX0_pushRoot 74 = .ok (.lcmp, 1) := by decide +kernel
theorem dX0_pushRoot_75 : decode cX0_pushRoot 75 = .ok (.ifCond .gt 10, 3) := by decide +kernel
theorem dX0_pushRoot_78 : decode cX0_pushRoot 78 = .ok (.lload 12, 2) := by decide +kernel
theorem dX0_pushRoot_80 : decode cX0_pushRoot 80 = .ok (.lstore 7, 2) := by decide +kernel
theorem dX0_pushRoot_82 : decode cX0_pushRoot 82 = .ok (.goto 9, 3) := by decide +kernel
theorem dX0_pushRoot_85 : decode cX0_pushRoot 85 = .ok (.lload 12, 2) := by decide +kernel
theorem dX0_pushRoot_87 : decode cX0_pushRoot 87 = .ok (.lconst 1, 1) := by decide +kernel
theorem dX0_pushRoot_88 : decode cX0_pushRoot 88 = .ok (.lsub, 1) := by decide +kernel
theorem dX0_pushRoot_89 : decode cX0_pushRoot 89 = .ok (.lstore 9, 2) := by decide +kernel
theorem dX0_pushRoot_91 : decode cX0_pushRoot 91 = .ok (.iinc 11 1, 3) := by decide +kernel
theorem dX0_pushRoot_94 : decode cX0_pushRoot 94 = .ok (.goto (-55), 3) := by decide +kernel
theorem dX0_pushRoot_97 : decode cX0_pushRoot 97 = .ok (.aload_n 0, 1) := by decide +kernel
theorem dX0_pushRoot_98 : decode cX0_pushRoot 98 = .ok (.lload 7, 2) := by decide +kernel
theorem dX0_pushRoot_100 : decode cX0_pushRoot 100 = .ok (.ldc2_w 97, 3) := by decide +kernel
theorem dX0_pushRoot_103 : decode cX0_pushRoot 103 = .ok (.invokevirtual 22, 3) := by decide +kernel
theorem dX0_pushRoot_106 : decode cX0_pushRoot 106 = .ok (.return_, 1) := by decide +kernel
theorem dX0_pushReduced_0 : decode cX0_pushReduced 0 = .ok (.lload_n 1, 1) := by decide +kernel
theorem dX0_pushReduced_1 : decode cX0_pushReduced 1 = .ok (.invokestatic 99, 3) := by decide +kernel
theorem dX0_pushReduced_4 : decode cX0_pushReduced 4 = .ok (.lload_n 3, 1) := by decide +kernel
theorem dX0_pushReduced_5 : decode cX0_pushReduced 5 = .ok (.invokestatic 99, 3) := by decide +kernel
theorem dX0_pushReduced_8 : decode cX0_pushReduced 8 = .ok (.invokestatic 103, 3) := by decide +kernel
theorem dX0_pushReduced_11 : decode cX0_pushReduced 11 = .ok (.lstore 5, 2) := by decide +kernel
theorem dX0_pushReduced_13 : decode cX0_pushReduced 13 = .ok (.lload_n 3, 1) := by decide +kernel
theorem dX0_pushReduced_14 : decode cX0_pushReduced 14 = .ok (.lconst 0, 1) := by decide +kernel
theorem dX0_pushReduced_15 : decode cX0_pushReduced 15 = .ok (.lcmp, 1) := by decide +kernel
theorem dX0_pushReduced_16 : decode cX0_pushReduced 16 = .ok (.ifCond .eq 10, 3) := by decide +kernel
theorem dX0_pushReduced_19 : decode cX0_pushReduced 19 = .ok (.lload 5, 2) := by decide +kernel
theorem dX0_pushReduced_21 : decode cX0_pushReduced 21 = .ok (.lconst 0, 1) := by decide +kernel
theorem dX0_pushReduced_22 : decode cX0_pushReduced 22 = .ok (.lcmp, 1) := by decide +kernel
theorem dX0_pushReduced_23 : decode cX0_pushReduced 23 = .ok (.ifCond .ne 10, 3) := by decide +kernel
theorem dX0_pushReduced_26 : decode cX0_pushReduced 26 = .ok (.aload_n 0, 1) := by decide +kernel
theorem dX0_pushReduced_27 : decode cX0_pushReduced 27 = .ok (.lconst 0, 1) := by decide +kernel
theorem dX0_pushReduced_28 : decode cX0_pushReduced 28 = .ok (.lconst 0, 1) := by decide +kernel
theorem dX0_pushReduced_29 : decode cX0_pushReduced 29 = .ok (.invokevirtual 33, 3) := by decide +kernel
theorem dX0_pushReduced_32 : decode cX0_pushReduced 32 = .ok (.return_, 1) := by decide +kernel
theorem dX0_pushReduced_33 : decode cX0_pushReduced 33 = .ok (.lload_n 3, 1) := by decide +kernel
theorem dX0_pushReduced_34 : decode cX0_pushReduced 34 = .ok (.lconst 0, 1) := by decide +kernel
theorem dX0_pushReduced_35 : decode cX0_pushReduced 35 = .ok (.lcmp, 1) := by decide +kernel
theorem dX0_pushReduced_36 : decode cX0_pushReduced 36 = .ok (.ifCond .ge 8, 3) := by decide +kernel
theorem dX0_pushReduced_39 : decode cX0_pushReduced 39 = .ok (.lload_n 1, 1) := by decide +kernel
theorem dX0_pushReduced_40 : decode cX0_pushReduced 40 = .ok (.lneg, 1) := by decide +kernel
theorem dX0_pushReduced_41 : decode cX0_pushReduced 41 = .ok (.goto 4, 3) := by decide +kernel
theorem dX0_pushReduced_44 : decode cX0_pushReduced 44 = .ok (.lload_n 1, 1) := by decide +kernel
theorem dX0_pushReduced_45 : decode cX0_pushReduced 45 = .ok (.lload 5, 2) := by decide +kernel
theorem dX0_pushReduced_47 : decode cX0_pushReduced 47 = .ok (.ldiv, 1) := by decide +kernel
theorem dX0_pushReduced_48 : decode cX0_pushReduced 48 = .ok (.lstore 7, 2) := by decide +kernel
theorem dX0_pushReduced_50 : decode cX0_pushReduced 50 = .ok (.lload_n 3, 1) := by decide +kernel
theorem dX0_pushReduced_51 : decode cX0_pushReduced 51 = .ok (.invokestatic 99, 3) := by decide +kernel
theorem dX0_pushReduced_54 : decode cX0_pushReduced 54 = .ok (.lload 5, 2) := by decide +kernel
theorem dX0_pushReduced_56 : decode cX0_pushReduced 56 = .ok (.ldiv, 1) := by decide +kernel
theorem dX0_pushReduced_57 : decode cX0_pushReduced 57 = .ok (.lstore 9, 2) := by decide +kernel
theorem dX0_pushReduced_59 : decode cX0_pushReduced 59 = .ok (.lload 7, 2) := by decide +kernel
theorem dX0_pushReduced_61 : decode cX0_pushReduced 61 = .ok (.ldc2_w 106, 3) := by decide +kernel
theorem dX0_pushReduced_64 : decode cX0_pushReduced 64 = .ok (.lcmp, 1) := by decide +kernel
theorem dX0_pushReduced_65 : decode cX0_pushReduced 65 = .ok (.ifCond .lt 25, 3) := by decide +kernel
theorem dX0_pushReduced_68 : decode cX0_pushReduced 68 = .ok (.lload 7, 2) := by decide +kernel
theorem dX0_pushReduced_70 : decode cX0_pushReduced 70 = .ok (.ldc2_w 108, 3) := by decide +kernel
theorem dX0_pushReduced_73 : decode cX0_pushReduced 73 = .ok (.lcmp, 1) := by decide +kernel
theorem dX0_pushReduced_74 : decode cX0_pushReduced 74 = .ok (.ifCond .gt 16, 3) := by decide +kernel
theorem dX0_pushReduced_77 : decode cX0_pushReduced 77 = .ok (.lload 9, 2) := by decide +kernel
theorem dX0_pushReduced_79 : decode cX0_pushReduced 79 = .ok (.ldc2_w 108, 3) := by decide +kernel
theorem dX0_pushReduced_82 : decode cX0_pushReduced 82 = .ok (.lcmp, 1) := by decide +kernel
theorem dX0_pushReduced_83 : decode cX0_pushReduced 83 = .ok (.ifCond .gt 7, 3) := by decide +kernel
theorem dX0_pushReduced_86 : decode cX0_pushReduced 86 = .ok (.iconst 1, 1) := by decide +kernel
theorem dX0_pushReduced_87 : decode cX0_pushReduced 87 = .ok (.goto 4, 3) := by decide +kernel
theorem dX0_pushReduced_90 : decode cX0_pushReduced 90 = .ok (.iconst 0, 1) := by decide +kernel
theorem dX0_pushReduced_91 : decode cX0_pushReduced 91 = .ok (.istore 11, 2) := by decide +kernel
theorem dX0_pushReduced_93 : decode cX0_pushReduced 93 = .ok (.aload_n 0, 1) := by decide +kernel
theorem dX0_pushReduced_94 : decode cX0_pushReduced 94 = .ok (.iload 11, 2) := by decide +kernel
theorem dX0_pushReduced_96 : decode cX0_pushReduced 96 = .ok (.ifCond .eq 8, 3) := by decide +kernel
theorem dX0_pushReduced_99 : decode cX0_pushReduced 99 = .ok (.lload 7, 2) := by decide +kernel
theorem dX0_pushReduced_101 : decode cX0_pushReduced 101 = .ok (.goto 4, 3) := by decide +kernel
theorem dX0_pushReduced_104 : decode cX0_pushReduced 104 = .ok (.lconst 0, 1) := by decide +kernel
theorem dX0_pushReduced_105 : decode cX0_pushReduced 105 = .ok (.iload 11, 2) := by decide +kernel
theorem dX0_pushReduced_107 : decode cX0_pushReduced 107 = .ok (.ifCond .eq 8, 3) := by decide +kernel
theorem dX0_pushReduced_110 : decode cX0_pushReduced 110 = .ok (.lload 9, 2) := by decide +kernel
theorem dX0_pushReduced_112 : decode cX0_pushReduced 112 = .ok (.goto 4, 3) := by decide +kernel
theorem dX0_pushReduced_115 : decode cX0_pushReduced 115 = .ok (.lconst 0, 1) := by decide +kernel
theorem dX0_pushReduced_116 : decode cX0_pushReduced 116 = .ok (.invokevirtual 33, 3) := by decide +kernel
theorem dX0_pushReduced_119 : decode cX0_pushReduced 119 = .ok (.return_, 1) := by decide +kernel
theorem dX0_commonDivisor_0 : decode cX0_commonDivisor 0 = .ok (.lload_n 0, 1) := by decide +kernel
theorem dX0_commonDivisor_1 : decode cX0_commonDivisor 1 = .ok (.lstore 4, 2) := by decide +kernel
theorem dX0_commonDivisor_3 : decode cX0_commonDivisor 3 = .ok (.lload_n 2, 1) := by decide +kernel
theorem dX0_commonDivisor_4 : decode cX0_commonDivisor 4 = .ok (.lstore 6, 2) := by decide +kernel
theorem dX0_commonDivisor_6 : decode cX0_commonDivisor 6 = .ok (.iconst 0, 1) := by decide +kernel
theorem dX0_commonDivisor_7 : decode cX0_commonDivisor 7 = .ok (.istore 8, 2) := by decide +kernel
theorem dX0_commonDivisor_9 : decode cX0_commonDivisor 9 = .ok (.iload 8, 2) := by decide +kernel
theorem dX0_commonDivisor_11 : decode cX0_commonDivisor 11 = .ok (.sipush 200, 3) := by decide +kernel
theorem dX0_commonDivisor_14 : decode cX0_commonDivisor 14 = .ok (.if_icmp .ge 31, 3) := by decide +kernel
theorem dX0_commonDivisor_17 : decode cX0_commonDivisor 17 = .ok (.lload 6, 2) := by decide +kernel
theorem dX0_commonDivisor_19 : decode cX0_commonDivisor 19 = .ok (.lconst 0, 1) := by decide +kernel
theorem dX0_commonDivisor_20 : decode cX0_commonDivisor 20 = .ok (.lcmp, 1) := by decide +kernel
theorem dX0_commonDivisor_21 : decode cX0_commonDivisor 21 = .ok (.ifCond .eq 24, 3) := by decide +kernel
theorem dX0_commonDivisor_24 : decode cX0_commonDivisor 24 = .ok (.lload 4, 2) := by decide +kernel
theorem dX0_commonDivisor_26 : decode cX0_commonDivisor 26 = .ok (.lload 6, 2) := by decide +kernel
theorem dX0_commonDivisor_28 : decode cX0_commonDivisor 28 = .ok (.lrem, 1) := by decide +kernel
theorem dX0_commonDivisor_29 : decode cX0_commonDivisor 29 = .ok (.lstore 9, 2) := by decide +kernel
theorem dX0_commonDivisor_31 : decode cX0_commonDivisor 31 = .ok (.lload 6, 2) := by decide +kernel
theorem dX0_commonDivisor_33 : decode cX0_commonDivisor 33 = .ok (.lstore 4, 2) := by decide +kernel
theorem dX0_commonDivisor_35 : decode cX0_commonDivisor 35 = .ok (.lload 9, 2) := by decide +kernel
theorem dX0_commonDivisor_37 : decode cX0_commonDivisor 37 = .ok (.lstore 6, 2) := by decide +kernel
theorem dX0_commonDivisor_39 : decode cX0_commonDivisor 39 = .ok (.iinc 8 1, 3) := by decide +kernel
theorem dX0_commonDivisor_42 : decode cX0_commonDivisor 42 = .ok (.goto (-33), 3) := by decide +kernel
theorem dX0_commonDivisor_45 : decode cX0_commonDivisor 45 = .ok (.lload 4, 2) := by decide +kernel
theorem dX0_commonDivisor_47 : decode cX0_commonDivisor 47 = .ok (.lreturn, 1) := by decide +kernel
theorem dX0_push_0 : decode cX0_push 0 = .ok (.aload_n 0, 1) := by decide +kernel
theorem dX0_push_1 : decode cX0_push 1 = .ok (.getfield 18, 3) := by decide +kernel
theorem dX0_push_4 : decode cX0_push 4 = .ok (.ifCond .lt 42, 3) := by decide +kernel
theorem dX0_push_7 : decode cX0_push 7 = .ok (.aload_n 0, 1) := by decide +kernel
theorem dX0_push_8 : decode cX0_push 8 = .ok (.getfield 18, 3) := by decide +kernel
theorem dX0_push_11 : decode cX0_push 11 = .ok (.bipush 64, 2) := by decide +kernel
theorem dX0_push_13 : decode cX0_push 13 = .ok (.if_icmp .ge 33, 3) := by decide +kernel
theorem dX0_push_16 : decode cX0_push 16 = .ok (.aload_n 0, 1) := by decide +kernel
theorem dX0_push_17 : decode cX0_push 17 = .ok (.getfield 11, 3) := by decide +kernel
theorem dX0_push_20 : decode cX0_push 20 = .ok (.aload_n 0, 1) := by decide +kernel
theorem dX0_push_21 : decode cX0_push 21 = .ok (.getfield 18, 3) := by decide +kernel
theorem dX0_push_24 : decode cX0_push 24 = .ok (.lload_n 1, 1) := by decide +kernel
theorem dX0_push_25 : decode cX0_push 25 = .ok (.lastore, 1) := by decide +kernel
theorem dX0_push_26 : decode cX0_push 26 = .ok (.aload_n 0, 1) := by decide +kernel
theorem dX0_push_27 : decode cX0_push 27 = .ok (.getfield 15, 3) := by decide +kernel
theorem dX0_push_30 : decode cX0_push 30 = .ok (.aload_n 0, 1) := by decide +kernel
theorem dX0_push_31 : decode cX0_push 31 = .ok (.getfield 18, 3) := by decide +kernel
theorem dX0_push_34 : decode cX0_push 34 = .ok (.lload_n 3, 1) := by decide +kernel
theorem dX0_push_35 : decode cX0_push 35 = .ok (.lastore, 1) := by decide +kernel
theorem dX0_push_36 : decode cX0_push 36 = .ok (.aload_n 0, 1) := by decide +kernel
theorem dX0_push_37 : decode cX0_push 37 = .ok (.dup, 1) := by decide +kernel
theorem dX0_push_38 : decode cX0_push 38 = .ok (.getfield 18, 3) := by decide +kernel
theorem dX0_push_41 : decode cX0_push 41 = .ok (.iconst 1, 1) := by decide +kernel
theorem dX0_push_42 : decode cX0_push 42 = .ok (.iadd, 1) := by decide +kernel
theorem dX0_push_43 : decode cX0_push 43 = .ok (.putfield 18, 3) := by decide +kernel
theorem dX0_push_46 : decode cX0_push 46 = .ok (.return_, 1) := by decide +kernel
theorem dX0_drop_0 : decode cX0_drop 0 = .ok (.aload_n 0, 1) := by decide +kernel
theorem dX0_drop_1 : decode cX0_drop 1 = .ok (.getfield 18, 3) := by decide +kernel
theorem dX0_drop_4 : decode cX0_drop 4 = .ok (.ifCond .le 13, 3) := by decide +kernel
theorem dX0_drop_7 : decode cX0_drop 7 = .ok (.aload_n 0, 1) := by decide +kernel
theorem dX0_drop_8 : decode cX0_drop 8 = .ok (.dup, 1) := by decide +kernel
theorem dX0_drop_9 : decode cX0_drop 9 = .ok (.getfield 18, 3) := by decide +kernel
theorem dX0_drop_12 : decode cX0_drop 12 = .ok (.iconst 1, 1) := by decide +kernel
theorem dX0_drop_13 : decode cX0_drop 13 = .ok (.isub, 1) := by decide +kernel
theorem dX0_drop_14 : decode cX0_drop 14 = .ok (.putfield 18, 3) := by decide +kernel
theorem dX0_drop_17 : decode cX0_drop 17 = .ok (.return_, 1) := by decide +kernel
theorem dX1_init_0 : decode cX1_init 0 = .ok (.aload_n 0, 1) := by decide +kernel
theorem dX1_init_1 : decode cX1_init 1 = .ok (.invokespecial 3, 3) := by decide +kernel
theorem dX1_init_4 : decode cX1_init 4 = .ok (.aload_n 0, 1) := by decide +kernel
theorem dX1_init_5 : decode cX1_init 5 = .ok (.bipush 45, 2) := by decide +kernel
theorem dX1_init_7 : decode cX1_init 7 = .ok (.newarray .int, 2) := by decide +kernel
theorem dX1_init_9 : decode cX1_init 9 = .ok (.putfield 11, 3) := by decide +kernel
theorem dX1_init_12 : decode cX1_init 12 = .ok (.aload_n 0, 1) := by decide +kernel
theorem dX1_init_13 : decode cX1_init 13 = .ok (.bipush 12, 2) := by decide +kernel
theorem dX1_init_15 : decode cX1_init 15 = .ok (.newarray .int, 2) := by decide +kernel
theorem dX1_init_17 : decode cX1_init 17 = .ok (.putfield 15, 3) := by decide +kernel
theorem dX1_init_20 : decode cX1_init 20 = .ok (.aload_n 0, 1) := by decide +kernel
theorem dX1_init_21 : decode cX1_init 21 = .ok (.bipush 12, 2) := by decide +kernel
theorem dX1_init_23 : decode cX1_init 23 = .ok (.newarray .int, 2) := by decide +kernel
theorem dX1_init_25 : decode cX1_init 25 = .ok (.putfield 18, 3) := by decide +kernel
theorem dX1_init_28 : decode cX1_init 28 = .ok (.aload_n 0, 1) := by decide +kernel
theorem dX1_init_29 : decode cX1_init 29 = .ok (.bipush 12, 2) := by decide +kernel
theorem dX1_init_31 : decode cX1_init 31 = .ok (.newarray .int, 2) := by decide +kernel
theorem dX1_init_33 : decode cX1_init 33 = .ok (.putfield 21, 3) := by decide +kernel
theorem dX1_init_36 : decode cX1_init 36 = .ok (.return_, 1) := by decide +kernel
theorem dX1_setTo_0 : decode cX1_setTo 0 = .ok (.iconst 0, 1) := by decide +kernel
theorem dX1_setTo_1 : decode cX1_setTo 1 = .ok (.istore_n 2, 1) := by decide +kernel
theorem dX1_setTo_2 : decode cX1_setTo 2 = .ok (.iload_n 2, 1) := by decide +kernel
theorem dX1_setTo_3 : decode cX1_setTo 3 = .ok (.iconst 5, 1) := by decide +kernel
theorem dX1_setTo_4 : decode cX1_setTo 4 = .ok (.if_icmp .ge 63, 3) := by decide +kernel
theorem dX1_setTo_7 : decode cX1_setTo 7 = .ok (.iload_n 2, 1) := by decide +kernel
theorem dX1_setTo_8 : decode cX1_setTo 8 = .ok (.aload_n 1, 1) := by decide +kernel
theorem dX1_setTo_9 : decode cX1_setTo 9 = .ok (.arraylength, 1) := by decide +kernel
theorem dX1_setTo_10 : decode cX1_setTo 10 = .ok (.if_icmp .ge 9, 3) := by decide +kernel
theorem dX1_setTo_13 : decode cX1_setTo 13 = .ok (.aload_n 1, 1) := by decide +kernel
theorem dX1_setTo_14 : decode cX1_setTo 14 = .ok (.iload_n 2, 1) := by decide +kernel
theorem dX1_setTo_15 : decode cX1_setTo 15 = .ok (.laload, 1) := by decide +kernel
theorem dX1_setTo_16 : decode cX1_setTo 16 = .ok (.goto 4, 3) := by decide +kernel
theorem dX1_setTo_19 : decode cX1_setTo 19 = .ok (.lconst 0, 1) := by decide +kernel
theorem dX1_setTo_20 : decode cX1_setTo 20 = .ok (.lstore_n 3, 1) := by decide +kernel
theorem dX1_setTo_21 : decode cX1_setTo 21 = .ok (.iconst 0, 1) := by decide +kernel
theorem dX1_setTo_22 : decode cX1_setTo 22 = .ok (.istore 5, 2) := by decide +kernel
theorem dX1_setTo_24 : decode cX1_setTo 24 = .ok (.iload 5, 2) := by decide +kernel
theorem dX1_setTo_26 : decode cX1_setTo 26 = .ok (.bipush 9, 2) := by decide +kernel
theorem dX1_setTo_28 : decode cX1_setTo 28 = .ok (.if_icmp .ge 33, 3) := by decide +kernel
theorem dX1_setTo_31 : decode cX1_setTo 31 = .ok (.aload_n 0, 1) := by decide +kernel
theorem dX1_setTo_32 : decode cX1_setTo 32 = .ok (.getfield 11, 3) := by decide +kernel
theorem dX1_setTo_35 : decode cX1_setTo 35 = .ok (.iload_n 2, 1) := by decide +kernel
theorem dX1_setTo_36 : decode cX1_setTo 36 = .ok (.bipush 9, 2) := by decide +kernel
theorem dX1_setTo_38 : decode cX1_setTo 38 = .ok (.imul, 1) := by decide +kernel
theorem dX1_setTo_39 : decode cX1_setTo 39 = .ok (.iload 5, 2) := by decide +kernel
theorem dX1_setTo_41 : decode cX1_setTo 41 = .ok (.iadd, 1) := by decide +kernel
theorem dX1_setTo_42 : decode cX1_setTo 42 = .ok (.lload_n 3, 1) := by decide +kernel
theorem dX1_setTo_43 : decode cX1_setTo 43 = .ok (.ldc2_w 24, 3) := by decide +kernel
theorem dX1_setTo_46 : decode cX1_setTo 46 = .ok (.lrem, 1) := by decide +kernel
theorem dX1_setTo_47 : decode cX1_setTo 47 = .ok (.l2i, 1) := by decide +kernel
theorem dX1_setTo_48 : decode cX1_setTo 48 = .ok (.iastore, 1) := by decide +kernel
theorem dX1_setTo_49 : decode cX1_setTo 49 = .ok (.lload_n 3, 1) := by decide +kernel
theorem dX1_setTo_50 : decode cX1_setTo 50 = .ok (.ldc2_w 24, 3) := by decide +kernel
theorem dX1_setTo_53 : decode cX1_setTo 53 = .ok (.ldiv, 1) := by decide +kernel
theorem dX1_setTo_54 : decode cX1_setTo 54 = .ok (.lstore_n 3, 1) := by decide +kernel
theorem dX1_setTo_55 : decode cX1_setTo 55 = .ok (.iinc 5 1, 3) := by decide +kernel
theorem dX1_setTo_58 : decode cX1_setTo 58 = .ok (.goto (-34), 3) := by decide +kernel
theorem dX1_setTo_61 : decode cX1_setTo 61 = .ok (.iinc 2 1, 3) := by decide +kernel
theorem dX1_setTo_64 : decode cX1_setTo 64 = .ok (.goto (-62), 3) := by decide +kernel
theorem dX1_setTo_67 : decode cX1_setTo 67 = .ok (.aload_n 0, 1) := by decide +kernel
theorem dX1_setTo_68 : decode cX1_setTo 68 = .ok (.iconst 0, 1) := by decide +kernel
theorem dX1_setTo_69 : decode cX1_setTo 69 = .ok (.putfield 26, 3) := by decide +kernel
theorem dX1_setTo_72 : decode cX1_setTo 72 = .ok (.aload_n 0, 1) := by decide +kernel
theorem dX1_setTo_73 : decode cX1_setTo 73 = .ok (.iconst 0, 1) := by decide +kernel
theorem dX1_setTo_74 : decode cX1_setTo 74 = .ok (.putfield 30, 3) := by decide +kernel
theorem dX1_setTo_77 : decode cX1_setTo 77 = .ok (.aload_n 0, 1) := by decide +kernel
theorem dX1_setTo_78 : decode cX1_setTo 78 = .ok (.iconst 0, 1) := by decide +kernel
theorem dX1_setTo_79 : decode cX1_setTo 79 = .ok (.putfield 33, 3) := by decide +kernel
theorem dX1_setTo_82 : decode cX1_setTo 82 = .ok (.return_, 1) := by decide +kernel
theorem dX1_tellStick_0 : decode cX1_tellStick 0 = .ok (.aload_n 0, 1) := by decide +kernel
theorem dX1_tellStick_1 : decode cX1_tellStick 1 = .ok (.getfield 33, 3) := by decide +kernel
theorem dX1_tellStick_4 : decode cX1_tellStick 4 = .ok (.bipush 12, 2) := by decide +kernel
theorem dX1_tellStick_6 : decode cX1_tellStick 6 = .ok (.if_icmp .ge 24, 3) := by decide +kernel
theorem dX1_tellStick_9 : decode cX1_tellStick 9 = .ok (.iload_n 1, 1) := by decide +kernel
theorem dX1_tellStick_10 : decode cX1_tellStick 10 = .ok (.ifCond .lt 20, 3) := by decide +kernel
theorem dX1_tellStick_13 : decode cX1_tellStick 13 = .ok (.iload_n 1, 1) := by decide +kernel
theorem dX1_tellStick_14 : decode cX1_tellStick 14 = .ok (.bipush 10, 2) := by decide +kernel
theorem dX1_tellStick_16 : decode cX1_tellStick 16 = .ok (.idiv, 1) := by decide +kernel
theorem dX1_tellStick_17 : decode cX1_tellStick 17 = .ok (.iconst 5, 1) := by decide +kernel
theorem dX1_tellStick_18 : decode cX1_tellStick 18 = .ok (.if_icmp .ge 12, 3) := by decide +kernel
theorem dX1_tellStick_21 : decode cX1_tellStick 21 = .ok (.iload_n 1, 1) := by decide +kernel
theorem dX1_tellStick_22 : decode cX1_tellStick 22 = .ok (.bipush 10, 2) := by decide +kernel
theorem dX1_tellStick_24 : decode cX1_tellStick 24 = .ok (.irem, 1) := by decide +kernel
theorem dX1_tellStick_25 : decode cX1_tellStick 25 = .ok (.bipush 9, 2) := by decide +kernel
theorem dX1_tellStick_27 : decode cX1_tellStick 27 = .ok (.if_icmp .lt 5, 3) := by decide +kernel
theorem dX1_tellStick_30 : decode cX1_tellStick 30 = .ok (.iconst 0, 1) := by decide +kernel
theorem dX1_tellStick_31 : decode cX1_tellStick 31 = .ok (.ireturn, 1) := by decide +kernel
theorem dX1_tellStick_32 : decode cX1_tellStick 32 = .ok (.aload_n 0, 1) := by decide +kernel
theorem dX1_tellStick_33 : decode cX1_tellStick 33 = .ok (.getfield 15, 3) := by decide +kernel
theorem dX1_tellStick_36 : decode cX1_tellStick 36 = .ok (.aload_n 0, 1) := by decide +kernel
theorem dX1_tellStick_37 : decode cX1_tellStick 37 = .ok (.getfield 33, 3) := by decide +kernel
theorem dX1_tellStick_40 : decode cX1_tellStick 40 = .ok (.iload_n 1, 1) := by decide +kernel
theorem dX1_tellStick_41 : decode cX1_tellStick 41 = .ok (.bipush 10, 2) := by decide +kernel
theorem dX1_tellStick_43 : decode cX1_tellStick 43 = .ok (.idiv, 1) := by decide +kernel
theorem dX1_tellStick_44 : decode cX1_tellStick 44 = .ok (.bipush 9, 2) := by decide +kernel
theorem dX1_tellStick_46 : decode cX1_tellStick 46 = .ok (.imul, 1) := by decide +kernel
theorem dX1_tellStick_47 : decode cX1_tellStick 47 = .ok (.iload_n 1, 1) := by decide +kernel
theorem dX1_tellStick_48 : decode cX1_tellStick 48 = .ok (.bipush 10, 2) := by decide +kernel
theorem dX1_tellStick_50 : decode cX1_tellStick 50 = .ok (.irem, 1) := by decide +kernel
theorem dX1_tellStick_51 : decode cX1_tellStick 51 = .ok (.iadd, 1) := by decide +kernel
theorem dX1_tellStick_52 : decode cX1_tellStick 52 = .ok (.iastore, 1) := by decide +kernel
theorem dX1_tellStick_53 : decode cX1_tellStick 53 = .ok (.aload_n 0, 1) := by decide +kernel
theorem dX1_tellStick_54 : decode cX1_tellStick 54 = .ok (.getfield 18, 3) := by decide +kernel
theorem dX1_tellStick_57 : decode cX1_tellStick 57 = .ok (.aload_n 0, 1) := by decide +kernel
theorem dX1_tellStick_58 : decode cX1_tellStick 58 = .ok (.getfield 33, 3) := by decide +kernel
theorem dX1_tellStick_61 : decode cX1_tellStick 61 = .ok (.aload_n 0, 1) := by decide +kernel
theorem dX1_tellStick_62 : decode cX1_tellStick 62 = .ok (.getfield 30, 3) := by decide +kernel
theorem dX1_tellStick_65 : decode cX1_tellStick 65 = .ok (.iload_n 2, 1) := by decide +kernel
theorem dX1_tellStick_66 : decode cX1_tellStick 66 = .ok (.iadd, 1) := by decide +kernel
theorem dX1_tellStick_67 : decode cX1_tellStick 67 = .ok (.iastore, 1) := by decide +kernel
theorem dX1_tellStick_68 : decode cX1_tellStick 68 = .ok (.aload_n 0, 1) := by decide +kernel
theorem dX1_tellStick_69 : decode cX1_tellStick 69 = .ok (.getfield 21, 3) := by decide +kernel
theorem dX1_tellStick_72 : decode cX1_tellStick 72 = .ok (.aload_n 0, 1) := by decide +kernel
theorem dX1_tellStick_73 : decode cX1_tellStick 73 = .ok (.getfield 33, 3) := by decide +kernel
theorem dX1_tellStick_76 : decode cX1_tellStick 76 = .ok (.aload_n 0, 1) := by decide +kernel
theorem dX1_tellStick_77 : decode cX1_tellStick 77 = .ok (.getfield 30, 3) := by decide +kernel
theorem dX1_tellStick_80 : decode cX1_tellStick 80 = .ok (.iload_n 2, 1) := by decide +kernel
theorem dX1_tellStick_81 : decode cX1_tellStick 81 = .ok (.iadd, 1) := by decide +kernel
theorem dX1_tellStick_82 : decode cX1_tellStick 82 = .ok (.iload_n 3, 1) := by decide +kernel
theorem dX1_tellStick_83 : decode cX1_tellStick 83 = .ok (.iadd, 1) := by decide +kernel
theorem dX1_tellStick_84 : decode cX1_tellStick 84 = .ok (.iastore, 1) := by decide +kernel
theorem dX1_tellStick_85 : decode cX1_tellStick 85 = .ok (.aload_n 0, 1) := by decide +kernel
theorem dX1_tellStick_86 : decode cX1_tellStick 86 = .ok (.dup, 1) := by decide +kernel
theorem dX1_tellStick_87 : decode cX1_tellStick 87 = .ok (.getfield 33, 3) := by decide +kernel
theorem dX1_tellStick_90 : decode cX1_tellStick 90 = .ok (.iconst 1, 1) := by decide +kernel
theorem dX1_tellStick_91 : decode cX1_tellStick 91 = .ok (.iadd, 1) := by decide +kernel
theorem dX1_tellStick_92 : decode cX1_tellStick 92 = .ok (.putfield 33, 3) := by decide +kernel
theorem dX1_tellStick_95 : decode cX1_tellStick 95 = .ok (.iconst 1, 1) := by decide +kernel
theorem dX1_tellStick_96 : decode cX1_tellStick 96 = .ok (.ireturn, 1) := by decide +kernel
theorem dX1_numberOf_0 : decode cX1_numberOf 0 = .ok (.iload_n 1, 1) := by decide +kernel
theorem dX1_numberOf_1 : decode cX1_numberOf 1 = .ok (.ifCond .lt 8, 3) := by decide +kernel
theorem dX1_numberOf_4 : decode cX1_numberOf 4 = .ok (.iload_n 1, 1) := by decide +kernel
theorem dX1_numberOf_5 : decode cX1_numberOf 5 = .ok (.iconst 5, 1) := by decide +kernel
theorem dX1_numberOf_6 : decode cX1_numberOf 6 = .ok (.if_icmp .lt 5, 3) := by decide +kernel
theorem dX1_numberOf_9 : decode cX1_numberOf 9 = .ok (.iconst (-1), 1) := by decide +kernel
theorem dX1_numberOf_10 : decode cX1_numberOf 10 = .ok (.ireturn, 1) := by decide +kernel
theorem dX1_numberOf_11 : decode cX1_numberOf 11 = .ok (.iconst 0, 1) := by decide +kernel
theorem dX1_numberOf_12 : decode cX1_numberOf 12 = .ok (.istore_n 2, 1) := by decide +kernel
theorem dX1_numberOf_13 : decode cX1_numberOf 13 = .ok (.bipush 8, 2) := by decide +kernel
theorem dX1_numberOf_15 : decode cX1_numberOf 15 = .ok (.istore_n 3, 1) := by decide +kernel
theorem dX1_numberOf_16 : decode cX1_numberOf 16 = .ok (.iload_n 3, 1) := by decide +kernel
theorem dX1_numberOf_17 : decode cX1_numberOf 17 = .ok (.ifCond .lt 26, 3) := by decide +kernel
theorem dX1_numberOf_20 : decode cX1_numberOf 20 = .ok (.iload_n 2, 1) := by decide +kernel
theorem dX1_numberOf_21 : decode cX1_numberOf 21 = .ok (.bipush 10, 2) := by decide +kernel
theorem dX1_numberOf_23 : decode cX1_numberOf 23 = .ok (.imul, 1) := by decide +kernel
theorem dX1_numberOf_24 : decode cX1_numberOf 24 = .ok (.aload_n 0, 1) := by decide +kernel
theorem dX1_numberOf_25 : decode cX1_numberOf 25 = .ok (.getfield 11, 3) := by decide +kernel
theorem dX1_numberOf_28 : decode cX1_numberOf 28 = .ok (.iload_n 1, 1) := by decide +kernel
theorem dX1_numberOf_29 : decode cX1_numberOf 29 = .ok (.bipush 9, 2) := by decide +kernel
theorem dX1_numberOf_31 : decode cX1_numberOf 31 = .ok (.imul, 1) := by decide +kernel
theorem dX1_numberOf_32 : decode cX1_numberOf 32 = .ok (.iload_n 3, 1) := by decide +kernel
theorem dX1_numberOf_33 : decode cX1_numberOf 33 = .ok (.iadd, 1) := by decide +kernel
theorem dX1_numberOf_34 : decode cX1_numberOf 34 = .ok (.iaload, 1) := by decide +kernel
theorem dX1_numberOf_35 : decode cX1_numberOf 35 = .ok (.iadd, 1) := by decide +kernel
theorem dX1_numberOf_36 : decode cX1_numberOf 36 = .ok (.istore_n 2, 1) := by decide +kernel
theorem dX1_numberOf_37 : decode cX1_numberOf 37 = .ok (.iinc 3 (-1), 3) := by decide +kernel
theorem dX1_numberOf_40 : decode cX1_numberOf 40 = .ok (.goto (-24), 3) := by decide +kernel
theorem dX1_numberOf_43 : decode cX1_numberOf 43 = .ok (.iload_n 2, 1) := by decide +kernel
theorem dX1_numberOf_44 : decode cX1_numberOf 44 = .ok (.ireturn, 1) := by decide +kernel
theorem dX1_turnOnce_0 : decode cX1_turnOnce 0 = .ok (.aload_n 0, 1) := by decide +kernel
theorem dX1_turnOnce_1 : decode cX1_turnOnce 1 = .ok (.invokevirtual 36, 3) := by decide +kernel
theorem dX1_turnOnce_4 : decode cX1_turnOnce 4 = .ok (.lstore_n 1, 1) := by decide +kernel
theorem dX1_turnOnce_5 : decode cX1_turnOnce 5 = .ok (.iconst 0, 1) := by decide +kernel
theorem dX1_turnOnce_6 : decode cX1_turnOnce 6 = .ok (.istore_n 3, 1) := by decide +kernel
theorem dX1_turnOnce_7 : decode cX1_turnOnce 7 = .ok (.iload_n 3, 1) := by decide +kernel
theorem dX1_turnOnce_8 : decode cX1_turnOnce 8 = .ok (.iconst 4, 1) := by decide +kernel
theorem dX1_turnOnce_9 : decode cX1_turnOnce 9 = .ok (.if_icmp .ge 15, 3) := by decide +kernel
theorem dX1_turnOnce_12 : decode cX1_turnOnce 12 = .ok (.aload_n 0, 1) := by decide +kernel
theorem dX1_turnOnce_13 : decode cX1_turnOnce 13 = .ok (.iload_n 3, 1) := by decide +kernel
theorem dX1_turnOnce_14 : decode cX1_turnOnce 14 = .ok (.lload_n 1, 1) := by decide +kernel
theorem dX1_turnOnce_15 : decode cX1_turnOnce 15 = .ok (.invokevirtual 40, 3) := by decide +kernel
theorem dX1_turnOnce_18 : decode cX1_turnOnce 18 = .ok (.iinc 3 1, 3) := by decide +kernel
theorem dX1_turnOnce_21 : decode cX1_turnOnce 21 = .ok (.goto (-14), 3) := by decide +kernel
theorem dX1_turnOnce_24 : decode cX1_turnOnce 24 = .ok (.aload_n 0, 1) := by decide +kernel
theorem dX1_turnOnce_25 : decode cX1_turnOnce 25 = .ok (.dup, 1) := by decide +kernel
theorem dX1_turnOnce_26 : decode cX1_turnOnce 26 = .ok (.getfield 30, 3) := by decide +kernel
theorem dX1_turnOnce_29 : decode cX1_turnOnce 29 = .ok (.iconst 1, 1) := by decide +kernel
theorem dX1_turnOnce_30 : decode cX1_turnOnce 30 = .ok (.iadd, 1) := by decide +kernel
theorem dX1_turnOnce_31 : decode cX1_turnOnce 31 = .ok (.putfield 30, 3) := by decide +kernel
theorem dX1_turnOnce_34 : decode cX1_turnOnce 34 = .ok (.return_, 1) := by decide +kernel
theorem dX1_stuckNow_0 : decode cX1_stuckNow 0 = .ok (.lconst 0, 1) := by decide +kernel
theorem dX1_stuckNow_1 : decode cX1_stuckNow 1 = .ok (.lstore_n 1, 1) := by decide +kernel
theorem dX1_stuckNow_2 : decode cX1_stuckNow 2 = .ok (.iconst 0, 1) := by decide +kernel
theorem dX1_stuckNow_3 : decode cX1_stuckNow 3 = .ok (.istore_n 3, 1) := by decide +kernel
theorem dX1_stuckNow_4 : decode cX1_stuckNow 4 = .ok (.iload_n 3, 1) := by decide +kernel
theorem dX1_stuckNow_5 : decode cX1_stuckNow 5 = .ok (.aload_n 0, 1) := by decide +kernel
theorem dX1_stuckNow_6 : decode cX1_stuckNow 6 = .ok (.getfield 33, 3) := by decide +kernel
theorem dX1_stuckNow_9 : decode cX1_stuckNow 9 = .ok (.if_icmp .ge 52, 3) := by decide +kernel
theorem dX1_stuckNow_12 : decode cX1_stuckNow 12 = .ok (.iload_n 3, 1) := by decide +kernel
theorem dX1_stuckNow_13 : decode cX1_stuckNow 13 = .ok (.bipush 12, 2) := by decide +kernel
theorem dX1_stuckNow_15 : decode cX1_stuckNow 15 = .ok (.if_icmp .ge 46, 3) := by decide +kernel
theorem dX1_stuckNow_18 : decode cX1_stuckNow 18 = .ok (.aload_n 0, 1) := by decide +kernel
theorem dX1_stuckNow_19 : decode cX1_stuckNow 19 = .ok (.getfield 30, 3) := by decide +kernel
theorem dX1_stuckNow_22 : decode cX1_stuckNow 22 = .ok (.aload_n 0, 1) := by decide +kernel
theorem dX1_stuckNow_23 : decode cX1_stuckNow 23 = .ok (.getfield 18, 3) := by decide +kernel
theorem dX1_stuckNow_26 : decode cX1_stuckNow 26 = .ok (.iload_n 3, 1) := by decide +kernel
theorem dX1_stuckNow_27 : decode cX1_stuckNow 27 = .ok (.iaload, 1) := by decide +kernel
theorem dX1_stuckNow_28 : decode cX1_stuckNow 28 = .ok (.if_icmp .lt 27, 3) := by decide +kernel
theorem dX1_stuckNow_31 : decode cX1_stuckNow 31 = .ok (.aload_n 0, 1) := by decide +kernel
theorem dX1_stuckNow_32 : decode cX1_stuckNow 32 = .ok (.getfield 30, 3) := by decide +kernel
theorem dX1_stuckNow_35 : decode cX1_stuckNow 35 = .ok (.aload_n 0, 1) := by decide +kernel
theorem dX1_stuckNow_36 : decode cX1_stuckNow 36 = .ok (.getfield 21, 3) := by decide +kernel
theorem dX1_stuckNow_39 : decode cX1_stuckNow 39 = .ok (.iload_n 3, 1) := by decide +kernel
theorem dX1_stuckNow_40 : decode cX1_stuckNow 40 = .ok (.iaload, 1) := by decide +kernel
theorem dX1_stuckNow_41 : decode cX1_stuckNow 41 = .ok (.if_icmp .ge 14, 3) := by decide +kernel
theorem dX1_stuckNow_44 : decode cX1_stuckNow 44 = .ok (.lload_n 1, 1) := by decide +kernel
theorem dX1_stuckNow_45 : decode cX1_stuckNow 45 = .ok (.lconst 1, 1) := by decide +kernel
theorem dX1_stuckNow_46 : decode cX1_stuckNow 46 = .ok (.aload_n 0, 1) := by decide +kernel
theorem dX1_stuckNow_47 : decode cX1_stuckNow 47 = .ok (.getfield 15, 3) := by decide +kernel
theorem dX1_stuckNow_50 : decode cX1_stuckNow 50 = .ok (.iload_n 3, 1) := by decide +kernel
theorem dX1_stuckNow_51 : decode cX1_stuckNow 51 = .ok (.iaload, 1) := by decide +kernel
theorem dX1_stuckNow_52 : decode cX1_stuckNow 52 = .ok (.lshl, 1) := by decide +kernel
theorem dX1_stuckNow_53 : decode cX1_stuckNow 53 = .ok (.lor, 1) := by decide +kernel
theorem dX1_stuckNow_54 : decode cX1_stuckNow 54 = .ok (.lstore_n 1, 1) := by decide +kernel
theorem dX1_stuckNow_55 : decode cX1_stuckNow 55 = .ok (.iinc 3 1, 3) := by decide +kernel
theorem dX1_stuckNow_58 : decode cX1_stuckNow 58 = .ok (.goto (-54), 3) := by decide +kernel
theorem dX1_stuckNow_61 : decode cX1_stuckNow 61 = .ok (.lload_n 1, 1) := by decide +kernel
theorem dX1_stuckNow_62 : decode cX1_stuckNow 62 = .ok (.lreturn, 1) := by decide +kernel
theorem dX1_addNextColumn_0 : decode cX1_addNextColumn 0 = .ok (.iconst 0, 1) := by decide +kernel
theorem dX1_addNextColumn_1 : decode cX1_addNextColumn 1 = .ok (.istore 4, 2) := by decide +kernel
theorem dX1_addNextColumn_3 : decode cX1_addNextColumn 3 = .ok (.iconst 0, 1) := by decide +kernel
theorem dX1_addNextColumn_4 : decode cX1_addNextColumn 4 = .ok (.istore 5, 2) := by decide +kernel
theorem dX1_addNextColumn_6 : decode cX1_addNextColumn 6 = .ok (.iload 5, 2) := by decide +kernel
theorem dX1_addNextColumn_8 : decode cX1_addNextColumn 8 = .ok (.bipush 9, 2) := by decide +kernel
theorem dX1_addNextColumn_10 : decode cX1_addNextColumn 10 = .ok (.if_icmp .ge 96, 3) := by decide +kernel
theorem dX1_addNextColumn_13 : decode cX1_addNextColumn 13 = .ok (.iload_n 1, 1) := by decide +kernel
theorem dX1_addNextColumn_14 : decode cX1_addNextColumn 14 = .ok (.bipush 9, 2) := by decide +kernel
theorem dX1_addNextColumn_16 : decode cX1_addNextColumn 16 = .ok (.imul, 1) := by decide +kernel
theorem dX1_addNextColumn_17 : decode cX1_addNextColumn 17 = .ok (.iload 5, 2) := by decide +kernel
theorem dX1_addNextColumn_19 : decode cX1_addNextColumn 19 = .ok (.iadd, 1) := by decide +kernel
theorem dX1_addNextColumn_20 : decode cX1_addNextColumn 20 = .ok (.istore 6, 2) := by decide +kernel
theorem dX1_addNextColumn_22 : decode cX1_addNextColumn 22 = .ok (.iload 6, 2) := by decide +kernel
theorem dX1_addNextColumn_24 : decode cX1_addNextColumn 24 = .ok (.ifCond .lt 16, 3) := by decide +kernel
theorem dX1_addNextColumn_27 : decode cX1_addNextColumn 27 = .ok (.iload 6, 2) := by decide +kernel
theorem dX1_addNextColumn_29 : decode cX1_addNextColumn 29 = .ok (.bipush 9, 2) := by decide +kernel
theorem dX1_addNextColumn_31 : decode cX1_addNextColumn 31 = .ok (.iadd, 1) := by decide +kernel
theorem dX1_addNextColumn_32 : decode cX1_addNextColumn 32 = .ok (.aload_n 0, 1) := by decide +kernel
theorem dX1_addNextColumn_33 : decode cX1_addNextColumn 33 = .ok (.getfield 11, 3) := by decide +kernel
theorem dX1_addNextColumn_36 : decode cX1_addNextColumn 36 = .ok (.arraylength, 1) := by decide +kernel
theorem dX1_addNextColumn_37 : decode cX1_addNextColumn 37 = .ok (.if_icmp .lt 4, 3) := by decide +kernel
theorem dX1_addNextColumn_40 : decode cX1_addNextColumn 40 = .ok (.return_, 1) := by decide +kernel
theorem dX1_addNextColumn_41 : decode cX1_addNextColumn 41 = .ok (.lload_n 2, 1) := by decide +kernel
theorem dX1_addNextColumn_42 : decode cX1_addNextColumn 42 = .ok (.iload 6, 2) := by decide +kernel
theorem dX1_addNextColumn_44 : decode cX1_addNextColumn 44 = .ok (.lushr, 1) := by decide +kernel
theorem dX1_addNextColumn_45 : decode cX1_addNextColumn 45 = .ok (.lconst 1, 1) := by decide +kernel
theorem dX1_addNextColumn_46 : decode cX1_addNextColumn 46 = .ok (.land, 1) := by decide +kernel
theorem dX1_addNextColumn_47 : decode cX1_addNextColumn 47 = .ok (.lconst 1, 1) := by decide +kernel
theorem dX1_addNextColumn_48 : decode cX1_addNextColumn 48 = .ok (.lcmp, 1) := by decide +kernel
theorem dX1_addNextColumn_49 : decode cX1_addNextColumn 49 = .ok (.ifCond .ne 9, 3) := by decide +kernel
theorem dX1_addNextColumn_52 : decode cX1_addNextColumn 52 = .ok (.iconst 0, 1) := by decide +kernel
theorem dX1_addNextColumn_53 : decode cX1_addNextColumn 53 = .ok (.istore 4, 2) := by decide +kernel
theorem dX1_addNextColumn_55 : decode cX1_addNextColumn 55 = .ok (.goto 45, 3) := by decide +kernel
theorem dX1_addNextColumn_58 : decode cX1_addNextColumn 58 = .ok (.aload_n 0, 1) := by decide +kernel
theorem dX1_addNextColumn_59 : decode cX1_addNextColumn 59 = .ok (.getfield 11, 3) := by decide +kernel
theorem dX1_addNextColumn_62 : decode cX1_addNextColumn 62 = .ok (.iload 6, 2) := by decide +kernel
theorem dX1_addNextColumn_64 : decode cX1_addNextColumn 64 = .ok (.iaload, 1) := by decide +kernel
theorem dX1_addNextColumn_65 : decode cX1_addNextColumn 65 = .ok (.aload_n 0, 1) := by decide +kernel
theorem dX1_addNextColumn_66 : decode cX1_addNextColumn 66 = .ok (.getfield 11, 3) := by decide +kernel
theorem dX1_addNextColumn_69 : decode cX1_addNextColumn 69 = .ok (.iload 6, 2) := by decide +kernel
theorem dX1_addNextColumn_71 : decode cX1_addNextColumn 71 = .ok (.bipush 9, 2) := by decide +kernel
theorem dX1_addNextColumn_73 : decode cX1_addNextColumn 73 = .ok (.iadd, 1) := by decide +kernel
theorem dX1_addNextColumn_74 : decode cX1_addNextColumn 74 = .ok (.iaload, 1) := by decide +kernel
theorem dX1_addNextColumn_75 : decode cX1_addNextColumn 75 = .ok (.iadd, 1) := by decide +kernel
theorem dX1_addNextColumn_76 : decode cX1_addNextColumn 76 = .ok (.iload 4, 2) := by decide +kernel
theorem dX1_addNextColumn_78 : decode cX1_addNextColumn 78 = .ok (.iadd, 1) := by decide +kernel
theorem dX1_addNextColumn_79 : decode cX1_addNextColumn 79 = .ok (.istore 7, 2) := by decide +kernel
theorem dX1_addNextColumn_81 : decode cX1_addNextColumn 81 = .ok (.aload_n 0, 1) := by decide +kernel
theorem dX1_addNextColumn_82 : decode cX1_addNextColumn 82 = .ok (.getfield 11, 3) := by decide +kernel
theorem dX1_addNextColumn_85 : decode cX1_addNextColumn 85 = .ok (.iload 6, 2) := by decide +kernel
theorem dX1_addNextColumn_87 : decode cX1_addNextColumn 87 = .ok (.iload 7, 2) := by decide +kernel
theorem dX1_addNextColumn_89 : decode cX1_addNextColumn 89 = .ok (.bipush 10, 2) := by decide +kernel
theorem dX1_addNextColumn_91 : decode cX1_addNextColumn 91 = .ok (.irem, 1) := by decide +kernel
theorem dX1_addNextColumn_92 : decode cX1_addNextColumn 92 = .ok (.iastore, 1) := by decide +kernel
theorem dX1_addNextColumn_93 : decode cX1_addNextColumn 93 = .ok (.iload 7, 2) := by decide +kernel
theorem dX1_addNextColumn_95 : decode cX1_addNextColumn 95 = .ok (.bipush 10, 2) := by decide +kernel
theorem dX1_addNextColumn_97 : decode cX1_addNextColumn 97 = .ok (.idiv, 1) := by decide +kernel
theorem dX1_addNextColumn_98 : decode cX1_addNextColumn 98 = .ok (.istore 4, 2) := by decide +kernel
theorem dX1_addNextColumn_100 : decode cX1_addNextColumn 100 = .ok (.iinc 5 1, 3) := by decide +kernel
theorem dX1_addNextColumn_103 : decode cX1_addNextColumn 103 = .ok (.goto (-97), 3) := by decide +kernel
theorem dX1_addNextColumn_106 : decode cX1_addNextColumn 106 = .ok (.aload_n 0, 1) := by decide +kernel
theorem dX1_addNextColumn_107 : decode cX1_addNextColumn 107 = .ok (.dup, 1) := by decide +kernel
theorem dX1_addNextColumn_108 : decode cX1_addNextColumn 108 = .ok (.getfield 26, 3) := by decide +kernel
theorem dX1_addNextColumn_111 : decode cX1_addNextColumn 111 = .ok (.iload 4, 2) := by decide +kernel
theorem dX1_addNextColumn_113 : decode cX1_addNextColumn 113 = .ok (.iadd, 1) := by decide +kernel
theorem dX1_addNextColumn_114 : decode cX1_addNextColumn 114 = .ok (.putfield 26, 3) := by decide +kernel
theorem dX1_addNextColumn_117 : decode cX1_addNextColumn 117 = .ok (.return_, 1) := by decide +kernel
theorem dX2_init_0 : decode cX2_init 0 = .ok (.aload_n 0, 1) := by decide +kernel
theorem dX2_init_1 : decode cX2_init 1 = .ok (.invokespecial 3, 3) := by decide +kernel
theorem dX2_init_4 : decode cX2_init 4 = .ok (.aload_n 0, 1) := by decide +kernel
theorem dX2_init_5 : decode cX2_init 5 = .ok (.bipush 40, 2) := by decide +kernel
theorem dX2_init_7 : decode cX2_init 7 = .ok (.newarray .int, 2) := by decide +kernel
theorem dX2_init_9 : decode cX2_init 9 = .ok (.putfield 11, 3) := by decide +kernel
theorem dX2_init_12 : decode cX2_init 12 = .ok (.aload_n 0, 1) := by decide +kernel
theorem dX2_init_13 : decode cX2_init 13 = .ok (.bipush 40, 2) := by decide +kernel
theorem dX2_init_15 : decode cX2_init 15 = .ok (.newarray .int, 2) := by decide +kernel
theorem dX2_init_17 : decode cX2_init 17 = .ok (.putfield 15, 3) := by decide +kernel
theorem dX2_init_20 : decode cX2_init 20 = .ok (.aload_n 0, 1) := by decide +kernel
theorem dX2_init_21 : decode cX2_init 21 = .ok (.bipush 40, 2) := by decide +kernel
theorem dX2_init_23 : decode cX2_init 23 = .ok (.newarray .int, 2) := by decide +kernel
theorem dX2_init_25 : decode cX2_init 25 = .ok (.putfield 18, 3) := by decide +kernel
theorem dX2_init_28 : decode cX2_init 28 = .ok (.aload_n 0, 1) := by decide +kernel
theorem dX2_init_29 : decode cX2_init 29 = .ok (.bipush 40, 2) := by decide +kernel
theorem dX2_init_31 : decode cX2_init 31 = .ok (.newarray .int, 2) := by decide +kernel
theorem dX2_init_33 : decode cX2_init 33 = .ok (.putfield 21, 3) := by decide +kernel
theorem dX2_init_36 : decode cX2_init 36 = .ok (.aload_n 0, 1) := by decide +kernel
theorem dX2_init_37 : decode cX2_init 37 = .ok (.bipush 40, 2) := by decide +kernel
theorem dX2_init_39 : decode cX2_init 39 = .ok (.newarray .int, 2) := by decide +kernel
theorem dX2_init_41 : decode cX2_init 41 = .ok (.putfield 24, 3) := by decide +kernel
theorem dX2_init_44 : decode cX2_init 44 = .ok (.return_, 1) := by decide +kernel
theorem dX2_has_0 : decode cX2_has 0 = .ok (.iload_n 1, 1) := by decide +kernel
theorem dX2_has_1 : decode cX2_has 1 = .ok (.ifCond .lt 21, 3) := by decide +kernel
theorem dX2_has_4 : decode cX2_has 4 = .ok (.iload_n 1, 1) := by decide +kernel
theorem dX2_has_5 : decode cX2_has 5 = .ok (.aload_n 0, 1) := by decide +kernel
theorem dX2_has_6 : decode cX2_has 6 = .ok (.getfield 27, 3) := by decide +kernel
theorem dX2_has_9 : decode cX2_has 9 = .ok (.if_icmp .ge 13, 3) := by decide +kernel
theorem dX2_has_12 : decode cX2_has 12 = .ok (.iload_n 1, 1) := by decide +kernel
theorem dX2_has_13 : decode cX2_has 13 = .ok (.bipush 40, 2) := by decide +kernel
theorem dX2_has_15 : decode cX2_has 15 = .ok (.if_icmp .ge 7, 3) := by decide +kernel
theorem dX2_has_18 : decode cX2_has 18 = .ok (.iconst 1, 1) := by decide +kernel
theorem dX2_has_19 : decode cX2_has 19 = .ok (.goto 4, 3) := by decide +kernel
theorem dX2_has_22 : decode cX2_has 22 = .ok (.iconst 0, 1) := by decide +kernel
theorem dX2_has_23 : decode cX2_has 23 = .ok (.ireturn, 1) := by decide +kernel
theorem dX2_tell_0 : decode cX2_tell 0 = .ok (.aload_n 0, 1) := by decide +kernel
theorem dX2_tell_1 : decode cX2_tell 1 = .ok (.getfield 27, 3) := by decide +kernel
theorem dX2_tell_4 : decode cX2_tell 4 = .ok (.bipush 40, 2) := by decide +kernel
theorem dX2_tell_6 : decode cX2_tell 6 = .ok (.if_icmp .lt 5, 3) := by decide +kernel
theorem dX2_tell_9 : decode cX2_tell 9 = .ok (.iconst (-1), 1) := by decide +kernel
theorem dX2_tell_10 : decode cX2_tell 10 = .ok (.ireturn, 1) := by decide +kernel
theorem dX2_tell_11 : decode cX2_tell 11 = .ok (.aload_n 0, 1) := by decide +kernel
theorem dX2_tell_12 : decode cX2_tell 12 = .ok (.getfield 11, 3) := by decide +kernel
theorem dX2_tell_15 : decode cX2_tell 15 = .ok (.aload_n 0, 1) := by decide +kernel
theorem dX2_tell_16 : decode cX2_tell 16 = .ok (.getfield 27, 3) := by decide +kernel
theorem dX2_tell_19 : decode cX2_tell 19 = .ok (.iload_n 1, 1) := by decide +kernel
theorem dX2_tell_20 : decode cX2_tell 20 = .ok (.iastore, 1) := by decide +kernel
theorem dX2_tell_21 : decode cX2_tell 21 = .ok (.aload_n 0, 1) := by decide +kernel
theorem dX2_tell_22 : decode cX2_tell 22 = .ok (.getfield 15, 3) := by decide +kernel
theorem dX2_tell_25 : decode cX2_tell 25 = .ok (.aload_n 0, 1) := by decide +kernel
theorem dX2_tell_26 : decode cX2_tell 26 = .ok (.getfield 27, 3) := by decide +kernel
theorem dX2_tell_29 : decode cX2_tell 29 = .ok (.iload_n 2, 1) := by decide +kernel
theorem dX2_tell_30 : decode cX2_tell 30 = .ok (.iastore, 1) := by decide +kernel
theorem dX2_tell_31 : decode cX2_tell 31 = .ok (.aload_n 0, 1) := by decide +kernel
theorem dX2_tell_32 : decode cX2_tell 32 = .ok (.getfield 18, 3) := by decide +kernel
theorem dX2_tell_35 : decode cX2_tell 35 = .ok (.aload_n 0, 1) := by decide +kernel
theorem dX2_tell_36 : decode cX2_tell 36 = .ok (.getfield 27, 3) := by decide +kernel
theorem dX2_tell_39 : decode cX2_tell 39 = .ok (.iload_n 3, 1) := by decide +kernel
theorem dX2_tell_40 : decode cX2_tell 40 = .ok (.iastore, 1) := by decide +kernel
theorem dX2_tell_41 : decode cX2_tell 41 = .ok (.aload_n 0, 1) := by decide +kernel
theorem dX2_tell_42 : decode cX2_tell 42 = .ok (.getfield 21, 3) := by decide +kernel
theorem dX2_tell_45 : decode cX2_tell 45 = .ok (.aload_n 0, 1) := by decide +kernel
theorem dX2_tell_46 : decode cX2_tell 46 = .ok (.getfield 27, 3) := by decide +kernel
theorem dX2_tell_49 : decode cX2_tell 49 = .ok (.iload 4, 2) := by decide +kernel
theorem dX2_tell_51 : decode cX2_tell 51 = .ok (.iastore, 1) := by decide +kernel
theorem dX2_tell_52 : decode cX2_tell 52 = .ok (.aload_n 0, 1) := by decide +kernel
theorem dX2_tell_53 : decode cX2_tell 53 = .ok (.getfield 24, 3) := by decide +kernel
theorem dX2_tell_56 : decode cX2_tell 56 = .ok (.aload_n 0, 1) := by decide +kernel
theorem dX2_tell_57 : decode cX2_tell 57 = .ok (.getfield 27, 3) := by decide +kernel
theorem dX2_tell_60 : decode cX2_tell 60 = .ok (.iload 5, 2) := by decide +kernel
theorem dX2_tell_62 : decode cX2_tell 62 = .ok (.iastore, 1) := by decide +kernel
theorem dX2_tell_63 : decode cX2_tell 63 = .ok (.aload_n 0, 1) := by decide +kernel
theorem dX2_tell_64 : decode cX2_tell 64 = .ok (.dup, 1) := by decide +kernel
theorem dX2_tell_65 : decode cX2_tell 65 = .ok (.getfield 27, 3) := by decide +kernel
theorem dX2_tell_68 : decode cX2_tell 68 = .ok (.iconst 1, 1) := by decide +kernel
theorem dX2_tell_69 : decode cX2_tell 69 = .ok (.iadd, 1) := by decide +kernel
theorem dX2_tell_70 : decode cX2_tell 70 = .ok (.putfield 27, 3) := by decide +kernel
theorem dX2_tell_73 : decode cX2_tell 73 = .ok (.aload_n 0, 1) := by decide +kernel
theorem dX2_tell_74 : decode cX2_tell 74 = .ok (.getfield 27, 3) := by decide +kernel
theorem dX2_tell_77 : decode cX2_tell 77 = .ok (.iconst 1, 1) := by decide +kernel
theorem dX2_tell_78 : decode cX2_tell 78 = .ok (.isub, 1) := by decide +kernel
theorem dX2_tell_79 : decode cX2_tell 79 = .ok (.ireturn, 1) := by decide +kernel
theorem dX2_applied_0 : decode cX2_applied 0 = .ok (.iload_n 3, 1) := by decide +kernel
theorem dX2_applied_1 : decode cX2_applied 1 = .ok (.istore 6, 2) := by decide +kernel
theorem dX2_applied_3 : decode cX2_applied 3 = .ok (.iconst 0, 1) := by decide +kernel
theorem dX2_applied_4 : decode cX2_applied 4 = .ok (.istore 7, 2) := by decide +kernel
theorem dX2_applied_6 : decode cX2_applied 6 = .ok (.iload 7, 2) := by decide +kernel
theorem dX2_applied_8 : decode cX2_applied 8 = .ok (.iload 4, 2) := by decide +kernel
theorem dX2_applied_10 : decode cX2_applied 10 = .ok (.if_icmp .ge 92, 3) := by decide +kernel
theorem dX2_applied_13 : decode cX2_applied 13 = .ok (.iload 7, 2) := by decide +kernel
theorem dX2_applied_15 : decode cX2_applied 15 = .ok (.aload_n 0, 1) := by decide +kernel
theorem dX2_applied_16 : decode cX2_applied 16 = .ok (.getfield 27, 3) := by decide +kernel
theorem dX2_applied_19 : decode cX2_applied 19 = .ok (.if_icmp .ge 83, 3) := by decide +kernel
theorem dX2_applied_22 : decode cX2_applied 22 = .ok (.iload 7, 2) := by decide +kernel
theorem dX2_applied_24 : decode cX2_applied 24 = .ok (.bipush 40, 2) := by decide +kernel
theorem dX2_applied_26 : decode cX2_applied 26 = .ok (.if_icmp .ge 76, 3) := by decide +kernel
theorem dX2_applied_29 : decode cX2_applied 29 = .ok (.aload_n 0, 1) := by decide +kernel
theorem dX2_applied_30 : decode cX2_applied 30 = .ok (.getfield 11, 3) := by decide +kernel
theorem dX2_applied_33 : decode cX2_applied 33 = .ok (.iload 7, 2) := by decide +kernel
theorem dX2_applied_35 : decode cX2_applied 35 = .ok (.iaload, 1) := by decide +kernel
theorem dX2_applied_36 : decode cX2_applied 36 = .ok (.iload_n 1, 1) := by decide +kernel
theorem dX2_applied_37 : decode cX2_applied 37 = .ok (.if_icmp .ne 30, 3) := by decide +kernel
theorem dX2_applied_40 : decode cX2_applied 40 = .ok (.aload_n 0, 1) := by decide +kernel
theorem dX2_applied_41 : decode cX2_applied 41 = .ok (.getfield 15, 3) := by decide +kernel
theorem dX2_applied_44 : decode cX2_applied 44 = .ok (.iload 7, 2) := by decide +kernel
theorem dX2_applied_46 : decode cX2_applied 46 = .ok (.iaload, 1) := by decide +kernel
theorem dX2_applied_47 : decode cX2_applied 47 = .ok (.iload_n 2, 1) := by decide +kernel
theorem dX2_applied_48 : decode cX2_applied 48 = .ok (.if_icmp .ne 19, 3) := by decide +kernel
theorem dX2_applied_51 : decode cX2_applied 51 = .ok (.aload_n 0, 1) := by decide +kernel
theorem dX2_applied_52 : decode cX2_applied 52 = .ok (.getfield 24, 3) := by decide +kernel
theorem dX2_applied_55 : decode cX2_applied 55 = .ok (.iload 7, 2) := by decide +kernel
theorem dX2_applied_57 : decode cX2_applied 57 = .ok (.iaload, 1) := by decide +kernel
theorem dX2_applied_58 : decode cX2_applied 58 = .ok (.iload 5, 2) := by decide +kernel
theorem dX2_applied_60 : decode cX2_applied 60 = .ok (.if_icmp .gt 7, 3) := by decide +kernel
theorem dX2_applied_63 : decode cX2_applied 63 = .ok (.iconst 1, 1) := by decide +kernel
theorem dX2_applied_64 : decode cX2_applied 64 = .ok (.goto 4, 3) := by decide +kernel
theorem dX2_applied_67 : decode cX2_applied 67 = .ok (.iconst 0, 1) := by decide +kernel
theorem dX2_applied_68 : decode cX2_applied 68 = .ok (.istore 8, 2) := by decide +kernel
theorem dX2_applied_70 : decode cX2_applied 70 = .ok (.iload 8, 2) := by decide +kernel
theorem dX2_applied_72 : decode cX2_applied 72 = .ok (.ifCond .eq 24, 3) := by decide +kernel
theorem dX2_applied_75 : decode cX2_applied 75 = .ok (.aload_n 0, 1) := by decide +kernel
theorem dX2_applied_76 : decode cX2_applied 76 = .ok (.getfield 18, 3) := by decide +kernel
theorem dX2_applied_79 : decode cX2_applied 79 = .ok (.iload 7, 2) := by decide +kernel
theorem dX2_applied_81 : decode cX2_applied 81 = .ok (.iaload, 1) := by decide +kernel
theorem dX2_applied_82 : decode cX2_applied 82 = .ok (.iload 6, 2) := by decide +kernel
theorem dX2_applied_84 : decode cX2_applied 84 = .ok (.if_icmp .ne 12, 3) := by decide +kernel
theorem dX2_applied_87 : decode cX2_applied 87 = .ok (.aload_n 0, 1) := by decide +kernel
theorem dX2_applied_88 : decode cX2_applied 88 = .ok (.getfield 21, 3) := by decide +kernel
theorem dX2_applied_91 : decode cX2_applied 91 = .ok (.iload 7, 2) := by decide +kernel
theorem dX2_applied_93 : decode cX2_applied 93 = .ok (.iaload, 1) := by decide +kernel
theorem dX2_applied_94 : decode cX2_applied 94 = .ok (.istore 6, 2) := by decide +kernel
theorem dX2_applied_96 : decode cX2_applied 96 = .ok (.iinc 7 1, 3) := by decide +kernel
theorem dX2_applied_99 : decode cX2_applied 99 = .ok (.goto (-93), 3) := by decide +kernel
theorem dX2_applied_102 : decode cX2_applied 102 = .ok (.iload 6, 2) := by decide +kernel
theorem dX2_applied_104 : decode cX2_applied 104 = .ok (.ireturn, 1) := by decide +kernel
theorem dX3_init_0 : decode cX3_init 0 = .ok (.aload_n 0, 1) := by decide +kernel
theorem dX3_init_1 : decode cX3_init 1 = .ok (.invokespecial 3, 3) := by decide +kernel
theorem dX3_init_4 : decode cX3_init 4 = .ok (.aload_n 0, 1) := by decide +kernel
theorem dX3_init_5 : decode cX3_init 5 = .ok (.bipush 6, 2) := by decide +kernel
theorem dX3_init_7 : decode cX3_init 7 = .ok (.newarray .int, 2) := by decide +kernel
theorem dX3_init_9 : decode cX3_init 9 = .ok (.putfield 9, 3) := by decide +kernel
theorem dX3_init_12 : decode cX3_init 12 = .ok (.aload_n 0, 1) := by decide +kernel
theorem dX3_init_13 : decode cX3_init 13 = .ok (.bipush 24, 2) := by decide +kernel
theorem dX3_init_15 : decode cX3_init 15 = .ok (.newarray .int, 2) := by decide +kernel
theorem dX3_init_17 : decode cX3_init 17 = .ok (.putfield 15, 3) := by decide +kernel
theorem dX3_init_20 : decode cX3_init 20 = .ok (.aload_n 0, 1) := by decide +kernel
theorem dX3_init_21 : decode cX3_init 21 = .ok (.bipush 24, 2) := by decide +kernel
theorem dX3_init_23 : decode cX3_init 23 = .ok (.newarray .int, 2) := by decide +kernel
theorem dX3_init_25 : decode cX3_init 25 = .ok (.putfield 18, 3) := by decide +kernel
theorem dX3_init_28 : decode cX3_init 28 = .ok (.aload_n 0, 1) := by decide +kernel
theorem dX3_init_29 : decode cX3_init 29 = .ok (.bipush 24, 2) := by decide +kernel
theorem dX3_init_31 : decode cX3_init 31 = .ok (.newarray .int, 2) := by decide +kernel
theorem dX3_init_33 : decode cX3_init 33 = .ok (.putfield 21, 3) := by decide +kernel
theorem dX3_init_36 : decode cX3_init 36 = .ok (.aload_n 0, 1) := by decide +kernel
theorem dX3_init_37 : decode cX3_init 37 = .ok (.bipush 24, 2) := by decide +kernel
theorem dX3_init_39 : decode cX3_init 39 = .ok (.newarray .int, 2) := by decide +kernel
theorem dX3_init_41 : decode cX3_init 41 = .ok (.putfield 24, 3) := by decide +kernel
theorem dX3_init_44 : decode cX3_init 44 = .ok (.aload_n 0, 1) := by decide +kernel
theorem dX3_init_45 : decode cX3_init 45 = .ok (.bipush 24, 2) := by decide +kernel
theorem dX3_init_47 : decode cX3_init 47 = .ok (.newarray .int, 2) := by decide +kernel
theorem dX3_init_49 : decode cX3_init 49 = .ok (.putfield 27, 3) := by decide +kernel
theorem dX3_init_52 : decode cX3_init 52 = .ok (.aload_n 0, 1) := by decide +kernel
theorem dX3_init_53 : decode cX3_init 53 = .ok (.sipush 720, 3) := by decide +kernel
theorem dX3_init_56 : decode cX3_init 56 = .ok (.newarray .int, 2) := by decide +kernel
theorem dX3_init_58 : decode cX3_init 58 = .ok (.putfield 30, 3) := by decide +kernel
theorem dX3_init_61 : decode cX3_init 61 = .ok (.return_, 1) := by decide +kernel
theorem dX3_has_0 : decode cX3_has 0 = .ok (.iload_n 1, 1) := by decide +kernel
theorem dX3_has_1 : decode cX3_has 1 = .ok (.ifCond .lt 24, 3) := by decide +kernel
theorem dX3_has_4 : decode cX3_has 4 = .ok (.iload_n 1, 1) := by decide +kernel
theorem dX3_has_5 : decode cX3_has 5 = .ok (.aload_n 0, 1) := by decide +kernel
theorem dX3_has_6 : decode cX3_has 6 = .ok (.getfield 33, 3) := by decide +kernel
theorem dX3_has_9 : decode cX3_has 9 = .ok (.if_icmp .ge 16, 3) := by decide +kernel
theorem dX3_has_12 : decode cX3_has 12 = .ok (.iload_n 2, 1) := by decide +kernel
theorem dX3_has_13 : decode cX3_has 13 = .ok (.ifCond .lt 12, 3) := by decide +kernel
theorem dX3_has_16 : decode cX3_has 16 = .ok (.iload_n 2, 1) := by decide +kernel
theorem dX3_has_17 : decode cX3_has 17 = .ok (.iconst 3, 1) := by decide +kernel
theorem dX3_has_18 : decode cX3_has 18 = .ok (.if_icmp .ge 7, 3) := by decide +kernel
theorem dX3_has_21 : decode cX3_has 21 = .ok (.iconst 1, 1) := by decide +kernel
theorem dX3_has_22 : decode cX3_has 22 = .ok (.goto 4, 3) := by decide +kernel
theorem dX3_has_25 : decode cX3_has 25 = .ok (.iconst 0, 1) := by decide +kernel
theorem dX3_has_26 : decode cX3_has 26 = .ok (.ireturn, 1) := by decide +kernel
theorem dX3_tellHabit_0 : decode cX3_tellHabit 0 = .ok (.iload_n 3, 1) := by decide +kernel
theorem dX3_tellHabit_1 : decode cX3_tellHabit 1 = .ok (.bipush 10, 2) := by decide +kernel
theorem dX3_tellHabit_3 : decode cX3_tellHabit 3 = .ok (.idiv, 1) := by decide +kernel
theorem dX3_tellHabit_4 : decode cX3_tellHabit 4 = .ok (.bipush 10, 2) := by decide +kernel
theorem dX3_tellHabit_6 : decode cX3_tellHabit 6 = .ok (.irem, 1) := by decide +kernel
theorem dX3_tellHabit_7 : decode cX3_tellHabit 7 = .ok (.istore 4, 2) := by decide +kernel
theorem dX3_tellHabit_9 : decode cX3_tellHabit 9 = .ok (.iload_n 3, 1) := by decide +kernel
theorem dX3_tellHabit_10 : decode cX3_tellHabit 10 = .ok (.bipush 10, 2) := by decide +kernel
theorem dX3_tellHabit_12 : decode cX3_tellHabit 12 = .ok (.irem, 1) := by decide +kernel
theorem dX3_tellHabit_13 : decode cX3_tellHabit 13 = .ok (.istore 5, 2) := by decide +kernel
theorem dX3_tellHabit_15 : decode cX3_tellHabit 15 = .ok (.aload_n 0, 1) := by decide +kernel
theorem dX3_tellHabit_16 : decode cX3_tellHabit 16 = .ok (.getfield 37, 3) := by decide +kernel
theorem dX3_tellHabit_19 : decode cX3_tellHabit 19 = .ok (.bipush 24, 2) := by decide +kernel
theorem dX3_tellHabit_21 : decode cX3_tellHabit 21 = .ok (.if_icmp .ge 21, 3) := by decide +kernel
theorem dX3_tellHabit_24 : decode cX3_tellHabit 24 = .ok (.iload_n 3, 1) := by decide +kernel
theorem dX3_tellHabit_25 : decode cX3_tellHabit 25 = .ok (.ifCond .lt 17, 3) := by decide +kernel
theorem dX3_tellHabit_28 : decode cX3_tellHabit 28 = .ok (.iload_n 3, 1) := by decide +kernel
theorem dX3_tellHabit_29 : decode cX3_tellHabit 29 = .ok (.sipush 900, 3) := by decide +kernel
theorem dX3_tellHabit_32 : decode cX3_tellHabit 32 = .ok (.if_icmp .ge 10, 3) := by decide +kernel
theorem dX3_tellHabit_35 : decode cX3_tellHabit 35 = .ok (.iload 4, 2) := by decide +kernel
theorem dX3_tellHabit_37 : decode cX3_tellHabit 37 = .ok (.iload 5, 2) := by decide +kernel
theorem dX3_tellHabit_39 : decode cX3_tellHabit 39 = .ok (.if_icmp .ne 5, 3) := by decide +kernel
theorem dX3_tellHabit_42 : decode cX3_tellHabit 42 = .ok (.iconst 0, 1) := by decide +kernel
theorem dX3_tellHabit_43 : decode cX3_tellHabit 43 = .ok (.ireturn, 1) := by decide +kernel
theorem dX3_tellHabit_44 : decode cX3_tellHabit 44 = .ok (.aload_n 0, 1) := by decide +kernel
theorem dX3_tellHabit_45 : decode cX3_tellHabit 45 = .ok (.getfield 15, 3) := by decide +kernel
theorem dX3_tellHabit_48 : decode cX3_tellHabit 48 = .ok (.aload_n 0, 1) := by decide +kernel
theorem dX3_tellHabit_49 : decode cX3_tellHabit 49 = .ok (.getfield 37, 3) := by decide +kernel
theorem dX3_tellHabit_52 : decode cX3_tellHabit 52 = .ok (.iload_n 1, 1) := by decide +kernel
theorem dX3_tellHabit_53 : decode cX3_tellHabit 53 = .ok (.iastore, 1) := by decide +kernel
theorem dX3_tellHabit_54 : decode cX3_tellHabit 54 = .ok (.aload_n 0, 1) := by decide +kernel
theorem dX3_tellHabit_55 : decode cX3_tellHabit 55 = .ok (.getfield 18, 3) := by decide +kernel
theorem dX3_tellHabit_58 : decode cX3_tellHabit 58 = .ok (.aload_n 0, 1) := by decide +kernel
theorem dX3_tellHabit_59 : decode cX3_tellHabit 59 = .ok (.getfield 37, 3) := by decide +kernel
theorem dX3_tellHabit_62 : decode cX3_tellHabit 62 = .ok (.iload_n 2, 1) := by decide +kernel
theorem dX3_tellHabit_63 : decode cX3_tellHabit 63 = .ok (.iastore, 1) := by decide +kernel
theorem dX3_tellHabit_64 : decode cX3_tellHabit 64 = .ok (.aload_n 0, 1) := by decide +kernel
theorem dX3_tellHabit_65 : decode cX3_tellHabit 65 = .ok (.getfield 21, 3) := by decide +kernel
theorem dX3_tellHabit_68 : decode cX3_tellHabit 68 = .ok (.aload_n 0, 1) := by decide +kernel
theorem dX3_tellHabit_69 : decode cX3_tellHabit 69 = .ok (.getfield 37, 3) := by decide +kernel
theorem dX3_tellHabit_72 : decode cX3_tellHabit 72 = .ok (.iload_n 3, 1) := by decide +kernel
theorem dX3_tellHabit_73 : decode cX3_tellHabit 73 = .ok (.bipush 100, 2) := by decide +kernel
theorem dX3_tellHabit_75 : decode cX3_tellHabit 75 = .ok (.idiv, 1) := by decide +kernel
theorem dX3_tellHabit_76 : decode cX3_tellHabit 76 = .ok (.invokestatic 40, 3) := by decide +kernel
theorem dX3_tellHabit_79 : decode cX3_tellHabit 79 = .ok (.iastore, 1) := by decide +kernel
theorem dX3_tellHabit_80 : decode cX3_tellHabit 80 = .ok (.aload_n 0, 1) := by decide +kernel
theorem dX3_tellHabit_81 : decode cX3_tellHabit 81 = .ok (.getfield 24, 3) := by decide +kernel
theorem dX3_tellHabit_84 : decode cX3_tellHabit 84 = .ok (.aload_n 0, 1) := by decide +kernel
theorem dX3_tellHabit_85 : decode cX3_tellHabit 85 = .ok (.getfield 37, 3) := by decide +kernel
theorem dX3_tellHabit_88 : decode cX3_tellHabit 88 = .ok (.iload 4, 2) := by decide +kernel
theorem dX3_tellHabit_90 : decode cX3_tellHabit 90 = .ok (.iastore, 1) := by decide +kernel
theorem dX3_tellHabit_91 : decode cX3_tellHabit 91 = .ok (.aload_n 0, 1) := by decide +kernel
theorem dX3_tellHabit_92 : decode cX3_tellHabit 92 = .ok (.getfield 27, 3) := by decide +kernel
theorem dX3_tellHabit_95 : decode cX3_tellHabit 95 = .ok (.aload_n 0, 1) := by decide +kernel
theorem dX3_tellHabit_96 : decode cX3_tellHabit 96 = .ok (.getfield 37, 3) := by decide +kernel
theorem dX3_tellHabit_99 : decode cX3_tellHabit 99 = .ok (.iload 5, 2) := by decide +kernel
theorem dX3_tellHabit_101 : decode cX3_tellHabit 101 = .ok (.iastore, 1) := by decide +kernel
theorem dX3_tellHabit_102 : decode cX3_tellHabit 102 = .ok (.aload_n 0, 1) := by decide +kernel
theorem dX3_tellHabit_103 : decode cX3_tellHabit 103 = .ok (.dup, 1) := by decide +kernel
theorem dX3_tellHabit_104 : decode cX3_tellHabit 104 = .ok (.getfield 37, 3) := by decide +kernel
theorem dX3_tellHabit_107 : decode cX3_tellHabit 107 = .ok (.iconst 1, 1) := by decide +kernel
theorem dX3_tellHabit_108 : decode cX3_tellHabit 108 = .ok (.iadd, 1) := by decide +kernel
theorem dX3_tellHabit_109 : decode cX3_tellHabit 109 = .ok (.putfield 37, 3) := by decide +kernel
theorem dX3_tellHabit_112 : decode cX3_tellHabit 112 = .ok (.iconst 1, 1) := by decide +kernel
theorem dX3_tellHabit_113 : decode cX3_tellHabit 113 = .ok (.ireturn, 1) := by decide +kernel
theorem dX3_writes_0 : decode cX3_writes 0 = .ok (.iload_n 3, 1) := by decide +kernel
theorem dX3_writes_1 : decode cX3_writes 1 = .ok (.ldc 44, 2) := by decide +kernel
theorem dX3_writes_3 : decode cX3_writes 3 = .ok (.if_icmp .ne 6, 3) := by decide +kernel
theorem dX3_writes_6 : decode cX3_writes 6 = .ok (.ldc 44, 2) := by decide +kernel
theorem dX3_writes_8 : decode cX3_writes 8 = .ok (.ireturn, 1) := by decide +kernel
theorem dX3_writes_9 : decode cX3_writes 9 = .ok (.iload_n 3, 1) := by decide +kernel
theorem dX3_writes_10 : decode cX3_writes 10 = .ok (.invokestatic 45, 3) := by decide +kernel
theorem dX3_writes_13 : decode cX3_writes 13 = .ok (.istore 4, 2) := by decide +kernel
theorem dX3_writes_15 : decode cX3_writes 15 = .ok (.iconst 0, 1) := by decide +kernel
theorem dX3_writes_16 : decode cX3_writes 16 = .ok (.istore 5, 2) := by decide +kernel
theorem dX3_writes_18 : decode cX3_writes 18 = .ok (.iload 5, 2) := by decide +kernel
theorem dX3_writes_20 : decode cX3_writes 20 = .ok (.aload_n 0, 1) := by decide +kernel
theorem dX3_writes_21 : decode cX3_writes 21 = .ok (.getfield 37, 3) := by decide +kernel
theorem dX3_writes_24 : decode cX3_writes 24 = .ok (.if_icmp .ge 99, 3) := by decide +kernel
theorem dX3_writes_27 : decode cX3_writes 27 = .ok (.iload 5, 2) := by decide +kernel
theorem dX3_writes_29 : decode cX3_writes 29 = .ok (.bipush 24, 2) := by decide +kernel
theorem dX3_writes_31 : decode cX3_writes 31 = .ok (.if_icmp .ge 92, 3) := by decide +kernel
theorem dX3_writes_34 : decode cX3_writes 34 = .ok (.aload_n 0, 1) := by decide +kernel
theorem dX3_writes_35 : decode cX3_writes 35 = .ok (.getfield 15, 3) := by decide +kernel
theorem dX3_writes_38 : decode cX3_writes 38 = .ok (.iload 5, 2) := by decide +kernel
theorem dX3_writes_40 : decode cX3_writes 40 = .ok (.iaload, 1) := by decide +kernel
theorem dX3_writes_41 : decode cX3_writes 41 = .ok (.iload_n 1, 1) := by decide +kernel
theorem dX3_writes_42 : decode cX3_writes 42 = .ok (.if_icmp .ne 75, 3) := by decide +kernel
theorem dX3_writes_45 : decode cX3_writes 45 = .ok (.aload_n 0, 1) := by decide +kernel
theorem dX3_writes_46 : decode cX3_writes 46 = .ok (.getfield 18, 3) := by decide +kernel
theorem dX3_writes_49 : decode cX3_writes 49 = .ok (.iload 5, 2) := by decide +kernel
theorem dX3_writes_51 : decode cX3_writes 51 = .ok (.iaload, 1) := by decide +kernel
theorem dX3_writes_52 : decode cX3_writes 52 = .ok (.iload_n 2, 1) := by decide +kernel
theorem dX3_writes_53 : decode cX3_writes 53 = .ok (.if_icmp .ne 64, 3) := by decide +kernel
theorem dX3_writes_56 : decode cX3_writes 56 = .ok (.aload_n 0, 1) := by decide +kernel
theorem dX3_writes_57 : decode cX3_writes 57 = .ok (.getfield 21, 3) := by decide +kernel
theorem dX3_writes_60 : decode cX3_writes 60 = .ok (.iload 5, 2) := by decide +kernel
theorem dX3_writes_62 : decode cX3_writes 62 = .ok (.iaload, 1) := by decide +kernel
theorem dX3_writes_63 : decode cX3_writes 63 = .ok (.ifCond .le 54, 3) := by decide +kernel
theorem dX3_writes_66 : decode cX3_writes 66 = .ok (.iload 4, 2) := by decide +kernel
theorem dX3_writes_68 : decode cX3_writes 68 = .ok (.aload_n 0, 1) := by decide +kernel
theorem dX3_writes_69 : decode cX3_writes 69 = .ok (.getfield 21, 3) := by decide +kernel
theorem dX3_writes_72 : decode cX3_writes 72 = .ok (.iload 5, 2) := by decide +kernel
theorem dX3_writes_74 : decode cX3_writes 74 = .ok (.iaload, 1) := by decide +kernel
theorem dX3_writes_75 : decode cX3_writes 75 = .ok (.idiv, 1) := by decide +kernel
theorem dX3_writes_76 : decode cX3_writes 76 = .ok (.bipush 10, 2) := by decide +kernel
theorem dX3_writes_78 : decode cX3_writes 78 = .ok (.irem, 1) := by decide +kernel
theorem dX3_writes_79 : decode cX3_writes 79 = .ok (.aload_n 0, 1) := by decide +kernel
theorem dX3_writes_80 : decode cX3_writes 80 = .ok (.getfield 24, 3) := by decide +kernel
theorem dX3_writes_83 : decode cX3_writes 83 = .ok (.iload 5, 2) := by decide +kernel
theorem dX3_writes_85 : decode cX3_writes 85 = .ok (.iaload, 1) := by decide +kernel
theorem dX3_writes_86 : decode cX3_writes 86 = .ok (.if_icmp .ne 31, 3) := by decide +kernel
theorem dX3_writes_89 : decode cX3_writes 89 = .ok (.iload 4, 2) := by decide +kernel
theorem dX3_writes_91 : decode cX3_writes 91 = .ok (.aload_n 0, 1) := by decide +kernel
theorem dX3_writes_92 : decode cX3_writes 92 = .ok (.getfield 27, 3) := by decide +kernel
theorem dX3_writes_95 : decode cX3_writes 95 = .ok (.iload 5, 2) := by decide +kernel
theorem dX3_writes_97 : decode cX3_writes 97 = .ok (.iaload, 1) := by decide +kernel
theorem dX3_writes_98 : decode cX3_writes 98 = .ok (.aload_n 0, 1) := by decide +kernel
theorem dX3_writes_99 : decode cX3_writes 99 = .ok (.getfield 24, 3) := by decide +kernel
theorem dX3_writes_102 : decode cX3_writes 102 = .ok (.iload 5, 2) := by decide +kernel
theorem dX3_writes_104 : decode cX3_writes 104 = .ok (.iaload, 1) := by decide +kernel
theorem dX3_writes_105 : decode cX3_writes 105 = .ok (.isub, 1) := by decide +kernel
theorem dX3_writes_106 : decode cX3_writes 106 = .ok (.aload_n 0, 1) := by decide +kernel
theorem dX3_writes_107 : decode cX3_writes 107 = .ok (.getfield 21, 3) := by decide +kernel
theorem dX3_writes_110 : decode cX3_writes 110 = .ok (.iload 5, 2) := by decide +kernel
theorem dX3_writes_112 : decode cX3_writes 112 = .ok (.iaload, 1) := by decide +kernel
theorem dX3_writes_113 : decode cX3_writes 113 = .ok (.imul, 1) := by decide +kernel
theorem dX3_writes_114 : decode cX3_writes 114 = .ok (.iadd, 1) := by decide +kernel
theorem dX3_writes_115 : decode cX3_writes 115 = .ok (.istore 4, 2) := by decide +kernel
theorem dX3_writes_117 : decode cX3_writes 117 = .ok (.iinc 5 1, 3) := by decide +kernel
theorem dX3_writes_120 : decode cX3_writes 120 = .ok (.goto (-102), 3) := by decide +kernel
theorem dX3_writes_123 : decode cX3_writes 123 = .ok (.iload_n 3, 1) := by decide +kernel
theorem dX3_writes_124 : decode cX3_writes 124 = .ok (.ifCond .ge 9, 3) := by decide +kernel
theorem dX3_writes_127 : decode cX3_writes 127 = .ok (.iload 4, 2) := by decide +kernel
theorem dX3_writes_129 : decode cX3_writes 129 = .ok (.ineg, 1) := by decide +kernel
theorem dX3_writes_130 : decode cX3_writes 130 = .ok (.goto 5, 3) := by decide +kernel
theorem dX3_writes_133 : decode cX3_writes 133 = .ok (.iload 4, 2) := by decide +kernel
theorem dX3_writes_135 : decode cX3_writes 135 = .ok (.ireturn, 1) := by decide +kernel
theorem dX3_findPair_0 : decode cX3_findPair 0 = .ok (.aload_n 0, 1) := by decide +kernel
theorem dX3_findPair_1 : decode cX3_findPair 1 = .ok (.aload_n 1, 1) := by decide +kernel
theorem dX3_findPair_2 : decode cX3_findPair 2 = .ok (.invokevirtual 50, 3) := by decide +kernel
theorem dX3_findPair_5 : decode cX3_findPair 5 = .ok (.aload_n 0, 1) := by decide +kernel
theorem dX3_findPair_6 : decode cX3_findPair 6 = .ok (.getfield 9, 3) := by decide +kernel
theorem dX3_findPair_9 : decode cX3_findPair 9 = .ok (.iconst 4, 1) := by decide +kernel
theorem dX3_findPair_10 : decode cX3_findPair 10 = .ok (.bipush 31, 2) := by decide +kernel
theorem dX3_findPair_12 : decode cX3_findPair 12 = .ok (.iastore, 1) := by decide +kernel
theorem dX3_findPair_13 : decode cX3_findPair 13 = .ok (.aload_n 0, 1) := by decide +kernel
theorem dX3_findPair_14 : decode cX3_findPair 14 = .ok (.getfield 9, 3) := by decide +kernel
theorem dX3_findPair_17 : decode cX3_findPair 17 = .ok (.iconst 5, 1) := by decide +kernel
theorem dX3_findPair_18 : decode cX3_findPair 18 = .ok (.iconst 0, 1) := by decide +kernel
theorem dX3_findPair_19 : decode cX3_findPair 19 = .ok (.iastore, 1) := by decide +kernel
theorem dX3_findPair_20 : decode cX3_findPair 20 = .ok (.iconst 0, 1) := by decide +kernel
theorem dX3_findPair_21 : decode cX3_findPair 21 = .ok (.istore_n 2, 1) := by decide +kernel
theorem dX3_findPair_22 : decode cX3_findPair 22 = .ok (.iload_n 2, 1) := by decide +kernel
theorem dX3_findPair_23 : decode cX3_findPair 23 = .ok (.aload_n 0, 1) := by decide +kernel
theorem dX3_findPair_24 : decode cX3_findPair 24 = .ok (.getfield 33, 3) := by decide +kernel
theorem dX3_findPair_27 : decode cX3_findPair 27 = .ok (.if_icmp .ge 74, 3) := by decide +kernel
theorem dX3_findPair_30 : decode cX3_findPair 30 = .ok (.iconst 0, 1) := by decide +kernel
theorem dX3_findPair_31 : decode cX3_findPair 31 = .ok (.istore_n 3, 1) := by decide +kernel
theorem dX3_findPair_32 : decode cX3_findPair 32 = .ok (.iload_n 3, 1) := by decide +kernel
theorem dX3_findPair_33 : decode cX3_findPair 33 = .ok (.iconst 3, 1) := by decide +kernel
theorem dX3_findPair_34 : decode cX3_findPair 34 = .ok (.if_icmp .ge 61, 3) := by decide +kernel
theorem dX3_findPair_37 : decode cX3_findPair 37 = .ok (.iload_n 2, 1) := by decide +kernel
theorem dX3_findPair_38 : decode cX3_findPair 38 = .ok (.iconst 1, 1) := by decide +kernel
theorem dX3_findPair_39 : decode cX3_findPair 39 = .ok (.iadd, 1) := by decide +kernel
theorem dX3_findPair_40 : decode cX3_findPair 40 = .ok (.istore 4, 2) := by decide +kernel
theorem dX3_findPair_42 : decode cX3_findPair 42 = .ok (.iload 4, 2) := by decide +kernel
theorem dX3_findPair_44 : decode cX3_findPair 44 = .ok (.aload_n 0, 1) := by decide +kernel
theorem dX3_findPair_45 : decode cX3_findPair 45 = .ok (.getfield 33, 3) := by decide +kernel
theorem dX3_findPair_48 : decode cX3_findPair 48 = .ok (.if_icmp .ge 41, 3) := by decide +kernel
theorem dX3_findPair_51 : decode cX3_findPair 51 = .ok (.iconst 0, 1) := by decide +kernel
theorem dX3_findPair_52 : decode cX3_findPair 52 = .ok (.istore 5, 2) := by decide +kernel
theorem dX3_findPair_54 : decode cX3_findPair 54 = .ok (.iload 5, 2) := by decide +kernel
theorem dX3_findPair_56 : decode cX3_findPair 56 = .ok (.iconst 3, 1) := by decide +kernel
theorem dX3_findPair_57 : decode cX3_findPair 57 = .ok (.if_icmp .ge 26, 3) := by decide +kernel
theorem dX3_findPair_60 : decode cX3_findPair 60 = .ok (.iload_n 3, 1) := by decide +kernel
theorem dX3_findPair_61 : decode cX3_findPair 61 = .ok (.iload 5, 2) := by decide +kernel
theorem dX3_findPair_63 : decode cX3_findPair 63 = .ok (.if_icmp .eq 14, 3) := by decide +kernel
theorem dX3_findPair_66 : decode cX3_findPair 66 = .ok (.aload_n 0, 1) := by decide +kernel
theorem dX3_findPair_67 : decode cX3_findPair 67 = .ok (.aload_n 1, 1) := by decide +kernel
theorem dX3_findPair_68 : decode cX3_findPair 68 = .ok (.iload_n 2, 1) := by decide +kernel
theorem dX3_findPair_69 : decode cX3_findPair 69 = .ok (.iload_n 3, 1) := by decide +kernel
theorem dX3_findPair_70 : decode cX3_findPair 70 = .ok (.iload 4, 2) := by decide +kernel
theorem dX3_findPair_72 : decode cX3_findPair 72 = .ok (.iload 5, 2) := by decide +kernel
theorem dX3_findPair_74 : decode cX3_findPair 74 = .ok (.invokevirtual 54, 3) := by decide +kernel
theorem dX3_findPair_77 : decode cX3_findPair 77 = .ok (.iinc 5 1, 3) := by decide +kernel
theorem dX3_findPair_80 : decode cX3_findPair 80 = .ok (.goto (-26), 3) := by decide +kernel
theorem dX3_findPair_83 : decode cX3_findPair 83 = .ok (.iinc 4 1, 3) := by decide +kernel
theorem dX3_findPair_86 : decode cX3_findPair 86 = .ok (.goto (-44), 3) := by decide +kernel
theorem dX3_findPair_89 : decode cX3_findPair 89 = .ok (.iinc 3 1, 3) := by decide +kernel
theorem dX3_findPair_92 : decode cX3_findPair 92 = .ok (.goto (-60), 3) := by decide +kernel
theorem dX3_findPair_95 : decode cX3_findPair 95 = .ok (.iinc 2 1, 3) := by decide +kernel
theorem dX3_findPair_98 : decode cX3_findPair 98 = .ok (.goto (-76), 3) := by decide +kernel
theorem dX3_findPair_101 : decode cX3_findPair 101 = .ok (.return_, 1) := by decide +kernel
theorem dX3_fillWouldWrite_0 : decode cX3_fillWouldWrite 0 = .ok (.iconst 0, 1) := by decide +kernel
theorem dX3_fillWouldWrite_1 : decode cX3_fillWouldWrite 1 = .ok (.istore_n 2, 1) := by decide +kernel
theorem dX3_fillWouldWrite_2 : decode cX3_fillWouldWrite 2 = .ok (.iload_n 2, 1) := by decide +kernel
theorem dX3_fillWouldWrite_3 : decode cX3_fillWouldWrite 3 = .ok (.aload_n 0, 1) := by decide +kernel
theorem dX3_fillWouldWrite_4 : decode cX3_fillWouldWrite 4 = .ok (.getfield 33, 3) := by decide +kernel
theorem dX3_fillWouldWrite_7 : decode cX3_fillWouldWrite 7 = .ok (.if_icmp .ge 78, 3) := by decide +kernel
theorem dX3_fillWouldWrite_10 : decode cX3_fillWouldWrite 10 = .ok (.iconst 0, 1) := by decide +kernel
theorem dX3_fillWouldWrite_11 : decode cX3_fillWouldWrite 11 = .ok (.istore_n 3, 1) := by decide +kernel
theorem dX3_fillWouldWrite_12 : decode cX3_fillWouldWrite 12 = .ok (.iload_n 3, 1) := by decide +kernel
theorem dX3_fillWouldWrite_13 : decode cX3_fillWouldWrite 13 = .ok (.iconst 3, 1) := by decide +kernel
theorem dX3_fillWouldWrite_14 : decode cX3_fillWouldWrite 14 = .ok (.if_icmp .ge 65, 3) := by decide +kernel
theorem dX3_fillWouldWrite_17 : decode cX3_fillWouldWrite 17 = .ok (.iconst 0, 1) := by decide +kernel
theorem dX3_fillWouldWrite_18 : decode cX3_fillWouldWrite 18 = .ok (.istore 4, 2) := by decide +kernel
theorem dX3_fillWouldWrite_20 : decode cX3_fillWouldWrite 20 = .ok (.iload 4, 2) := by decide +kernel
theorem dX3_fillWouldWrite_22 : decode cX3_fillWouldWrite 22 = .ok (.aload_n 1, 1) := by decide +kernel
theorem dX3_fillWouldWrite_23 : decode cX3_fillWouldWrite 23 = .ok (.getfield 58, 3) := by decide +kernel
theorem dX3_fillWouldWrite_26 : decode cX3_fillWouldWrite 26 = .ok (.if_icmp .ge 47, 3) := by decide +kernel
theorem dX3_fillWouldWrite_29 : decode cX3_fillWouldWrite 29 = .ok (.iload_n 2, 1) := by decide +kernel
theorem dX3_fillWouldWrite_30 : decode cX3_fillWouldWrite 30 = .ok (.iload_n 3, 1) := by decide +kernel
theorem dX3_fillWouldWrite_31 : decode cX3_fillWouldWrite 31 = .ok (.iload 4, 2) := by decide +kernel
theorem dX3_fillWouldWrite_33 : decode cX3_fillWouldWrite 33 = .ok (.invokestatic 63, 3) := by decide +kernel
theorem dX3_fillWouldWrite_36 : decode cX3_fillWouldWrite 36 = .ok (.istore 5, 2) := by decide +kernel
theorem dX3_fillWouldWrite_38 : decode cX3_fillWouldWrite 38 = .ok (.iload 5, 2) := by decide +kernel
theorem dX3_fillWouldWrite_40 : decode cX3_fillWouldWrite 40 = .ok (.aload_n 0, 1) := by decide +kernel
theorem dX3_fillWouldWrite_41 : decode cX3_fillWouldWrite 41 = .ok (.getfield 30, 3) := by decide +kernel
theorem dX3_fillWouldWrite_44 : decode cX3_fillWouldWrite 44 = .ok (.arraylength, 1) := by decide +kernel
theorem dX3_fillWouldWrite_45 : decode cX3_fillWouldWrite 45 = .ok (.if_icmp .ge 22, 3) := by decide +kernel
theorem dX3_fillWouldWrite_48 : decode cX3_fillWouldWrite 48 = .ok (.aload_n 0, 1) := by decide +kernel
theorem dX3_fillWouldWrite_49 : decode cX3_fillWouldWrite 49 = .ok (.getfield 30, 3) := by decide +kernel
theorem dX3_fillWouldWrite_52 : decode cX3_fillWouldWrite 52 = .ok (.iload 5, 2) := by decide +kernel
theorem dX3_fillWouldWrite_54 : decode cX3_fillWouldWrite 54 = .ok (.aload_n 0, 1) := by decide +kernel
theorem dX3_fillWouldWrite_55 : decode cX3_fillWouldWrite 55 = .ok (.iload_n 2, 1) := by decide +kernel
theorem dX3_fillWouldWrite_56 : decode cX3_fillWouldWrite 56 = .ok (.iload_n 3, 1) := by decide +kernel
theorem dX3_fillWouldWrite_57 : decode cX3_fillWouldWrite 57 = .ok (.aload_n 1, 1) := by decide +kernel
theorem dX3_fillWouldWrite_58 : decode cX3_fillWouldWrite 58 = .ok (.iload 4, 2) := by decide +kernel
theorem dX3_fillWouldWrite_60 : decode cX3_fillWouldWrite 60 = .ok (.invokevirtual 67, 3) := by decide +kernel
theorem dX3_fillWouldWrite_63 : decode cX3_fillWouldWrite 63 = .ok (.invokevirtual 70, 3) := by decide +kernel
theorem dX3_fillWouldWrite_66 : decode cX3_fillWouldWrite 66 = .ok (.iastore, 1) := by decide +kernel
theorem dX3_fillWouldWrite_67 : decode cX3_fillWouldWrite 67 = .ok (.iinc 4 1, 3) := by decide +kernel
theorem dX3_fillWouldWrite_70 : decode cX3_fillWouldWrite 70 = .ok (.goto (-50), 3) := by decide +kernel
theorem dX3_fillWouldWrite_73 : decode cX3_fillWouldWrite 73 = .ok (.iinc 3 1, 3) := by decide +kernel
theorem dX3_fillWouldWrite_76 : decode cX3_fillWouldWrite 76 = .ok (.goto (-64), 3) := by decide +kernel
theorem dX3_fillWouldWrite_79 : decode cX3_fillWouldWrite 79 = .ok (.iinc 2 1, 3) := by decide +kernel
theorem dX3_fillWouldWrite_82 : decode cX3_fillWouldWrite 82 = .ok (.goto (-80), 3) := by decide +kernel
theorem dX3_fillWouldWrite_85 : decode cX3_fillWouldWrite 85 = .ok (.return_, 1) := by decide +kernel
theorem dX3_slotOf_0 : decode cX3_slotOf 0 = .ok (.iload_n 0, 1) := by decide +kernel
theorem dX3_slotOf_1 : decode cX3_slotOf 1 = .ok (.iconst 3, 1) := by decide +kernel
theorem dX3_slotOf_2 : decode cX3_slotOf 2 = .ok (.imul, 1) := by decide +kernel
theorem dX3_slotOf_3 : decode cX3_slotOf 3 = .ok (.iload_n 1, 1) := by decide +kernel
theorem dX3_slotOf_4 : decode cX3_slotOf 4 = .ok (.iadd, 1) := by decide +kernel
theorem dX3_slotOf_5 : decode cX3_slotOf 5 = .ok (.bipush 30, 2) := by decide +kernel
theorem dX3_slotOf_7 : decode cX3_slotOf 7 = .ok (.imul, 1) := by decide +kernel
theorem dX3_slotOf_8 : decode cX3_slotOf 8 = .ok (.iload_n 2, 1) := by decide +kernel
theorem dX3_slotOf_9 : decode cX3_slotOf 9 = .ok (.iadd, 1) := by decide +kernel
theorem dX3_slotOf_10 : decode cX3_slotOf 10 = .ok (.ireturn, 1) := by decide +kernel
theorem dX3_weigh_0 : decode cX3_weigh 0 = .ok (.iconst 0, 1) := by decide +kernel
theorem dX3_weigh_1 : decode cX3_weigh 1 = .ok (.istore 6, 2) := by decide +kernel
theorem dX3_weigh_3 : decode cX3_weigh 3 = .ok (.iconst 0, 1) := by decide +kernel
theorem dX3_weigh_4 : decode cX3_weigh 4 = .ok (.istore 7, 2) := by decide +kernel
theorem dX3_weigh_6 : decode cX3_weigh 6 = .ok (.iconst 0, 1) := by decide +kernel
theorem dX3_weigh_7 : decode cX3_weigh 7 = .ok (.istore 8, 2) := by decide +kernel
theorem dX3_weigh_9 : decode cX3_weigh 9 = .ok (.iload 8, 2) := by decide +kernel
theorem dX3_weigh_11 : decode cX3_weigh 11 = .ok (.aload_n 1, 1) := by decide +kernel
theorem dX3_weigh_12 : decode cX3_weigh 12 = .ok (.getfield 58, 3) := by decide +kernel
theorem dX3_weigh_15 : decode cX3_weigh 15 = .ok (.if_icmp .ge 114, 3) := by decide +kernel
theorem dX3_weigh_18 : decode cX3_weigh 18 = .ok (.aload_n 1, 1) := by decide +kernel
theorem dX3_weigh_19 : decode cX3_weigh 19 = .ok (.iload 8, 2) := by decide +kernel
theorem dX3_weigh_21 : decode cX3_weigh 21 = .ok (.invokevirtual 67, 3) := by decide +kernel
theorem dX3_weigh_24 : decode cX3_weigh 24 = .ok (.istore 9, 2) := by decide +kernel
theorem dX3_weigh_26 : decode cX3_weigh 26 = .ok (.iload_n 2, 1) := by decide +kernel
theorem dX3_weigh_27 : decode cX3_weigh 27 = .ok (.iload_n 3, 1) := by decide +kernel
theorem dX3_weigh_28 : decode cX3_weigh 28 = .ok (.iload 8, 2) := by decide +kernel
theorem dX3_weigh_30 : decode cX3_weigh 30 = .ok (.invokestatic 63, 3) := by decide +kernel
theorem dX3_weigh_33 : decode cX3_weigh 33 = .ok (.istore 10, 2) := by decide +kernel
theorem dX3_weigh_35 : decode cX3_weigh 35 = .ok (.iload 4, 2) := by decide +kernel
theorem dX3_weigh_37 : decode cX3_weigh 37 = .ok (.iload 5, 2) := by decide +kernel
theorem dX3_weigh_39 : decode cX3_weigh 39 = .ok (.iload 8, 2) := by decide +kernel
theorem dX3_weigh_41 : decode cX3_weigh 41 = .ok (.invokestatic 63, 3) := by decide +kernel
theorem dX3_weigh_44 : decode cX3_weigh 44 = .ok (.istore 11, 2) := by decide +kernel
theorem dX3_weigh_46 : decode cX3_weigh 46 = .ok (.iload 10, 2) := by decide +kernel
theorem dX3_weigh_48 : decode cX3_weigh 48 = .ok (.aload_n 0, 1) := by decide +kernel
theorem dX3_weigh_49 : decode cX3_weigh 49 = .ok (.getfield 30, 3) := by decide +kernel
theorem dX3_weigh_52 : decode cX3_weigh 52 = .ok (.arraylength, 1) := by decide +kernel
theorem dX3_weigh_53 : decode cX3_weigh 53 = .ok (.if_icmp .ge 17, 3) := by decide +kernel
theorem dX3_weigh_56 : decode cX3_weigh 56 = .ok (.iload 11, 2) := by decide +kernel
theorem dX3_weigh_58 : decode cX3_weigh 58 = .ok (.aload_n 0, 1) := by decide +kernel
theorem dX3_weigh_59 : decode cX3_weigh 59 = .ok (.getfield 30, 3) := by decide +kernel
theorem dX3_weigh_62 : decode cX3_weigh 62 = .ok (.arraylength, 1) := by decide +kernel
theorem dX3_weigh_63 : decode cX3_weigh 63 = .ok (.if_icmp .ge 7, 3) := by decide +kernel
theorem dX3_weigh_66 : decode cX3_weigh 66 = .ok (.iconst 1, 1) := by decide +kernel
theorem dX3_weigh_67 : decode cX3_weigh 67 = .ok (.goto 4, 3) := by decide +kernel
theorem dX3_weigh_70 : decode cX3_weigh 70 = .ok (.iconst 0, 1) := by decide +kernel
theorem dX3_weigh_71 : decode cX3_weigh 71 = .ok (.istore 12, 2) := by decide +kernel
theorem dX3_weigh_73 : decode cX3_weigh 73 = .ok (.iload 9, 2) := by decide +kernel
theorem dX3_weigh_75 : decode cX3_weigh 75 = .ok (.ldc 44, 2) := by decide +kernel
theorem dX3_weigh_77 : decode cX3_weigh 77 = .ok (.if_icmp .eq 46, 3) := by decide +kernel
theorem dX3_weigh_80 : decode cX3_weigh 80 = .ok (.iload 12, 2) := by decide +kernel
theorem dX3_weigh_82 : decode cX3_weigh 82 = .ok (.ifCond .eq 41, 3) := by decide +kernel
theorem dX3_weigh_85 : decode cX3_weigh 85 = .ok (.aload_n 0, 1) := by decide +kernel
theorem dX3_weigh_86 : decode cX3_weigh 86 = .ok (.getfield 30, 3) := by decide +kernel
theorem dX3_weigh_89 : decode cX3_weigh 89 = .ok (.iload 10, 2) := by decide +kernel
theorem dX3_weigh_91 : decode cX3_weigh 91 = .ok (.iaload, 1) := by decide +kernel
theorem dX3_weigh_92 : decode cX3_weigh 92 = .ok (.aload_n 0, 1) := by decide +kernel
theorem dX3_weigh_93 : decode cX3_weigh 93 = .ok (.getfield 30, 3) := by decide +kernel
theorem dX3_weigh_96 : decode cX3_weigh 96 = .ok (.iload 11, 2) := by decide +kernel
theorem dX3_weigh_98 : decode cX3_weigh 98 = .ok (.iaload, 1) := by decide +kernel
theorem dX3_weigh_99 : decode cX3_weigh 99 = .ok (.if_icmp .ne 24, 3) := by decide +kernel
theorem dX3_weigh_102 : decode cX3_weigh 102 = .ok (.aload_n 0, 1) := by decide +kernel
theorem dX3_weigh_103 : decode cX3_weigh 103 = .ok (.getfield 30, 3) := by decide +kernel
theorem dX3_weigh_106 : decode cX3_weigh 106 = .ok (.iload 10, 2) := by decide +kernel
theorem dX3_weigh_108 : decode cX3_weigh 108 = .ok (.iaload, 1) := by decide +kernel
theorem dX3_weigh_109 : decode cX3_weigh 109 = .ok (.iload 9, 2) := by decide +kernel
theorem dX3_weigh_111 : decode cX3_weigh 111 = .ok (.if_icmp .ne 9, 3) := by decide +kernel
theorem dX3_weigh_114 : decode cX3_weigh 114 = .ok (.iinc 7 1, 3) := by decide +kernel
theorem dX3_weigh_117 : decode cX3_weigh 117 = .ok (.goto 6, 3) := by decide +kernel
theorem dX3_weigh_120 : decode cX3_weigh 120 = .ok (.iinc 6 1, 3) := by decide +kernel
theorem dX3_weigh_123 : decode cX3_weigh 123 = .ok (.iinc 8 1, 3) := by decide +kernel
theorem dX3_weigh_126 : decode cX3_weigh 126 = .ok (.goto (-117), 3) := by decide +kernel
theorem dX3_weigh_129 : decode cX3_weigh 129 = .ok (.iload 6, 2) := by decide +kernel
theorem dX3_weigh_131 : decode cX3_weigh 131 = .ok (.aload_n 0, 1) := by decide +kernel
theorem dX3_weigh_132 : decode cX3_weigh 132 = .ok (.getfield 9, 3) := by decide +kernel
theorem dX3_weigh_135 : decode cX3_weigh 135 = .ok (.iconst 4, 1) := by decide +kernel
theorem dX3_weigh_136 : decode cX3_weigh 136 = .ok (.iaload, 1) := by decide +kernel
theorem dX3_weigh_137 : decode cX3_weigh 137 = .ok (.if_icmp .lt 25, 3) := by decide +kernel
theorem dX3_weigh_140 : decode cX3_weigh 140 = .ok (.iload 6, 2) := by decide +kernel
theorem dX3_weigh_142 : decode cX3_weigh 142 = .ok (.aload_n 0, 1) := by decide +kernel
theorem dX3_weigh_143 : decode cX3_weigh 143 = .ok (.getfield 9, 3) := by decide +kernel
theorem dX3_weigh_146 : decode cX3_weigh 146 = .ok (.iconst 4, 1) := by decide +kernel
theorem dX3_weigh_147 : decode cX3_weigh 147 = .ok (.iaload, 1) := by decide +kernel
theorem dX3_weigh_148 : decode cX3_weigh 148 = .ok (.if_icmp .ne 60, 3) := by decide +kernel
theorem dX3_weigh_151 : decode cX3_weigh 151 = .ok (.iload 7, 2) := by decide +kernel
theorem dX3_weigh_153 : decode cX3_weigh 153 = .ok (.aload_n 0, 1) := by decide +kernel
theorem dX3_weigh_154 : decode cX3_weigh 154 = .ok (.getfield 9, 3) := by decide +kernel
theorem dX3_weigh_157 : decode cX3_weigh 157 = .ok (.iconst 5, 1) := by decide +kernel
theorem dX3_weigh_158 : decode cX3_weigh 158 = .ok (.iaload, 1) := by decide +kernel
theorem dX3_weigh_159 : decode cX3_weigh 159 = .ok (.if_icmp .le 49, 3) := by decide +kernel
theorem dX3_weigh_162 : decode cX3_weigh 162 = .ok (.aload_n 0, 1) := by decide +kernel
theorem dX3_weigh_163 : decode cX3_weigh 163 = .ok (.getfield 9, 3) := by decide +kernel
theorem dX3_weigh_166 : decode cX3_weigh 166 = .ok (.iconst 0, 1) := by decide +kernel
theorem dX3_weigh_167 : decode cX3_weigh 167 = .ok (.iload_n 2, 1) := by decide +kernel
theorem dX3_weigh_168 : decode cX3_weigh 168 = .ok (.iastore, 1) := by decide +kernel
theorem dX3_weigh_169 : decode cX3_weigh 169 = .ok (.aload_n 0, 1) := by decide +kernel
theorem dX3_weigh_170 : decode cX3_weigh 170 = .ok (.getfield 9, 3) := by decide +kernel
theorem dX3_weigh_173 : decode cX3_weigh 173 = .ok (.iconst 1, 1) := by decide +kernel
theorem dX3_weigh_174 : decode cX3_weigh 174 = .ok (.iload_n 3, 1) := by decide +kernel
theorem dX3_weigh_175 : decode cX3_weigh 175 = .ok (.iastore, 1) := by decide +kernel
theorem dX3_weigh_176 : decode cX3_weigh 176 = .ok (.aload_n 0, 1) := by decide +kernel
theorem dX3_weigh_177 : decode cX3_weigh 177 = .ok (.getfield 9, 3) := by decide +kernel
theorem dX3_weigh_180 : decode cX3_weigh 180 = .ok (.iconst 2, 1) := by decide +kernel
theorem dX3_weigh_181 : decode cX3_weigh 181 = .ok (.iload 4, 2) := by decide +kernel
theorem dX3_weigh_183 : decode cX3_weigh 183 = .ok (.iastore, 1) := by decide +kernel
theorem dX3_weigh_184 : decode cX3_weigh 184 = .ok (.aload_n 0, 1) := by decide +kernel
theorem dX3_weigh_185 : decode cX3_weigh 185 = .ok (.getfield 9, 3) := by decide +kernel
theorem dX3_weigh_188 : decode cX3_weigh 188 = .ok (.iconst 3, 1) := by decide +kernel
theorem dX3_weigh_189 : decode cX3_weigh 189 = .ok (.iload 5, 2) := by decide +kernel
theorem dX3_weigh_191 : decode cX3_weigh 191 = .ok (.iastore, 1) := by decide +kernel
theorem dX3_weigh_192 : decode cX3_weigh 192 = .ok (.aload_n 0, 1) := by decide +kernel
theorem dX3_weigh_193 : decode cX3_weigh 193 = .ok (.getfield 9, 3) := by decide +kernel
theorem dX3_weigh_196 : decode cX3_weigh 196 = .ok (.iconst 4, 1) := by decide +kernel
theorem dX3_weigh_197 : decode cX3_weigh 197 = .ok (.iload 6, 2) := by decide +kernel
theorem dX3_weigh_199 : decode cX3_weigh 199 = .ok (.iastore, 1) := by decide +kernel
theorem dX3_weigh_200 : decode cX3_weigh 200 = .ok (.aload_n 0, 1) := by decide +kernel
theorem dX3_weigh_201 : decode cX3_weigh 201 = .ok (.getfield 9, 3) := by decide +kernel
theorem dX3_weigh_204 : decode cX3_weigh 204 = .ok (.iconst 5, 1) := by decide +kernel
theorem dX3_weigh_205 : decode cX3_weigh 205 = .ok (.iload 7, 2) := by decide +kernel
theorem dX3_weigh_207 : decode cX3_weigh 207 = .ok (.iastore, 1) := by decide +kernel
theorem dX3_weigh_208 : decode cX3_weigh 208 = .ok (.return_, 1) := by decide +kernel
theorem dX4_init_0 : decode cX4_init 0 = .ok (.aload_n 0, 1) := by decide +kernel
theorem dX4_init_1 : decode cX4_init 1 = .ok (.invokespecial 3, 3) := by decide +kernel
theorem dX4_init_4 : decode cX4_init 4 = .ok (.aload_n 0, 1) := by decide +kernel
theorem dX4_init_5 : decode cX4_init 5 = .ok (.sipush 600, 3) := by decide +kernel
theorem dX4_init_8 : decode cX4_init 8 = .ok (.newarray .int, 2) := by decide +kernel
theorem dX4_init_10 : decode cX4_init 10 = .ok (.putfield 11, 3) := by decide +kernel
theorem dX4_init_13 : decode cX4_init 13 = .ok (.aload_n 0, 1) := by decide +kernel
theorem dX4_init_14 : decode cX4_init 14 = .ok (.aload_n 1, 1) := by decide +kernel
theorem dX4_init_15 : decode cX4_init 15 = .ok (.putfield 15, 3) := by decide +kernel
theorem dX4_init_18 : decode cX4_init 18 = .ok (.return_, 1) := by decide +kernel
theorem dX4_parse_0 : decode cX4_parse 0 = .ok (.aload_n 0, 1) := by decide +kernel
theorem dX4_parse_1 : decode cX4_parse 1 = .ok (.iconst 0, 1) := by decide +kernel
theorem dX4_parse_2 : decode cX4_parse 2 = .ok (.putfield 19, 3) := by decide +kernel
theorem dX4_parse_5 : decode cX4_parse 5 = .ok (.aload_n 0, 1) := by decide +kernel
theorem dX4_parse_6 : decode cX4_parse 6 = .ok (.iconst 0, 1) := by decide +kernel
theorem dX4_parse_7 : decode cX4_parse 7 = .ok (.putfield 23, 3) := by decide +kernel
theorem dX4_parse_10 : decode cX4_parse 10 = .ok (.aload_n 0, 1) := by decide +kernel
theorem dX4_parse_11 : decode cX4_parse 11 = .ok (.invokevirtual 26, 3) := by decide +kernel
theorem dX4_parse_14 : decode cX4_parse 14 = .ok (.aload_n 0, 1) := by decide +kernel
theorem dX4_parse_15 : decode cX4_parse 15 = .ok (.iconst 0, 1) := by decide +kernel
theorem dX4_parse_16 : decode cX4_parse 16 = .ok (.invokevirtual 29, 3) := by decide +kernel
theorem dX4_parse_19 : decode cX4_parse 19 = .ok (.ifCond .eq 14, 3) := by decide +kernel
theorem dX4_parse_22 : decode cX4_parse 22 = .ok (.aload_n 0, 1) := by decide +kernel
theorem dX4_parse_23 : decode cX4_parse 23 = .ok (.getfield 33, 3) := by decide +kernel
theorem dX4_parse_26 : decode cX4_parse 26 = .ok (.ifCond .ne 7, 3) := by decide +kernel
theorem dX4_parse_29 : decode cX4_parse 29 = .ok (.iconst (-1), 1) := by decide +kernel
theorem dX4_parse_30 : decode cX4_parse 30 = .ok (.goto 7, 3) := by decide +kernel
theorem dX4_parse_33 : decode cX4_parse 33 = .ok (.aload_n 0, 1) := by decide +kernel
theorem dX4_parse_34 : decode cX4_parse 34 = .ok (.getfield 36, 3) := by decide +kernel
theorem dX4_parse_37 : decode cX4_parse 37 = .ok (.ireturn, 1) := by decide +kernel
theorem dX4_sum_0 : decode cX4_sum 0 = .ok (.aload_n 0, 1) := by decide +kernel
theorem dX4_sum_1 : decode cX4_sum 1 = .ok (.iload_n 1, 1) := by decide +kernel
theorem dX4_sum_2 : decode cX4_sum 2 = .ok (.invokevirtual 39, 3) := by decide +kernel
theorem dX4_sum_5 : decode cX4_sum 5 = .ok (.ifCond .ne 5, 3) := by decide +kernel
theorem dX4_sum_8 : decode cX4_sum 8 = .ok (.iconst 0, 1) := by decide +kernel
theorem dX4_sum_9 : decode cX4_sum 9 = .ok (.ireturn, 1) := by decide +kernel
theorem dX4_sum_10 : decode cX4_sum 10 = .ok (.iconst 0, 1) := by decide +kernel
theorem dX4_sum_11 : decode cX4_sum 11 = .ok (.istore_n 2, 1) := by decide +kernel
theorem dX4_sum_12 : decode cX4_sum 12 = .ok (.iload_n 2, 1) := by decide +kernel
theorem dX4_sum_13 : decode cX4_sum 13 = .ok (.sipush 200, 3) := by decide +kernel
theorem dX4_sum_16 : decode cX4_sum 16 = .ok (.if_icmp .ge 64, 3) := by decide +kernel
theorem dX4_sum_19 : decode cX4_sum 19 = .ok (.aload_n 0, 1) := by decide +kernel
theorem dX4_sum_20 : decode cX4_sum 20 = .ok (.getfield 33, 3) := by decide +kernel
theorem dX4_sum_23 : decode cX4_sum 23 = .ok (.bipush 43, 2) := by decide +kernel
theorem dX4_sum_25 : decode cX4_sum 25 = .ok (.if_icmp .eq 12, 3) := by decide +kernel
theorem dX4_sum_28 : decode cX4_sum 28 = .ok (.aload_n 0, 1) := by decide +kernel
theorem dX4_sum_29 : decode cX4_sum 29 = .ok (.getfield 33, 3) := by decide +kernel
theorem dX4_sum_32 : decode cX4_sum 32 = .ok (.bipush 45, 2) := by decide +kernel
theorem dX4_sum_34 : decode cX4_sum 34 = .ok (.if_icmp .ne 46, 3) := by decide +kernel
theorem dX4_sum_37 : decode cX4_sum 37 = .ok (.aload_n 0, 1) := by decide +kernel
theorem dX4_sum_38 : decode cX4_sum 38 = .ok (.getfield 33, 3) := by decide +kernel
theorem dX4_sum_41 : decode cX4_sum 41 = .ok (.bipush 43, 2) := by decide +kernel
theorem dX4_sum_43 : decode cX4_sum 43 = .ok (.if_icmp .ne 8, 3) := by decide +kernel
theorem dX4_sum_46 : decode cX4_sum 46 = .ok (.bipush (-2), 2) := by decide +kernel
theorem dX4_sum_48 : decode cX4_sum 48 = .ok (.goto 5, 3) := by decide +kernel
theorem dX4_sum_51 : decode cX4_sum 51 = .ok (.bipush (-3), 2) := by decide +kernel
theorem dX4_sum_53 : decode cX4_sum 53 = .ok (.istore_n 3, 1) := by decide +kernel
theorem dX4_sum_54 : decode cX4_sum 54 = .ok (.aload_n 0, 1) := by decide +kernel
theorem dX4_sum_55 : decode cX4_sum 55 = .ok (.invokevirtual 26, 3) := by decide +kernel
theorem dX4_sum_58 : decode cX4_sum 58 = .ok (.aload_n 0, 1) := by decide +kernel
theorem dX4_sum_59 : decode cX4_sum 59 = .ok (.iload_n 1, 1) := by decide +kernel
theorem dX4_sum_60 : decode cX4_sum 60 = .ok (.invokevirtual 39, 3) := by decide +kernel
theorem dX4_sum_63 : decode cX4_sum 63 = .ok (.ifCond .ne 5, 3) := by decide +kernel
theorem dX4_sum_66 : decode cX4_sum 66 = .ok (.iconst 0, 1) := by decide +kernel
theorem dX4_sum_67 : decode cX4_sum 67 = .ok (.ireturn, 1) := by decide +kernel
theorem dX4_sum_68 : decode cX4_sum 68 = .ok (.aload_n 0, 1) := by decide +kernel
theorem dX4_sum_69 : decode cX4_sum 69 = .ok (.iload_n 3, 1) := by decide +kernel
theorem dX4_sum_70 : decode cX4_sum 70 = .ok (.invokevirtual 42, 3) := by decide +kernel
theorem dX4_sum_73 : decode cX4_sum 73 = .ok (.pop, 1) := by decide +kernel
theorem dX4_sum_74 : decode cX4_sum 74 = .ok (.iinc 2 1, 3) := by decide +kernel
theorem dX4_sum_77 : decode cX4_sum 77 = .ok (.goto (-65), 3) := by decide +kernel
theorem dX4_sum_80 : decode cX4_sum 80 = .ok (.iconst 1, 1) := by decide +kernel
theorem dX4_sum_81 : decode cX4_sum 81 = .ok (.ireturn, 1) := by decide +kernel
theorem dX4_product_0 : decode cX4_product 0 = .ok (.aload_n 0, 1) := by decide +kernel
theorem dX4_product_1 : decode cX4_product 1 = .ok (.iload_n 1, 1) := by decide +kernel
theorem dX4_product_2 : decode cX4_product 2 = .ok (.invokevirtual 45, 3) := by decide +kernel
theorem dX4_product_5 : decode cX4_product 5 = .ok (.ifCond .ne 5, 3) := by decide +kernel
theorem dX4_product_8 : decode cX4_product 8 = .ok (.iconst 0, 1) := by decide +kernel
theorem dX4_product_9 : decode cX4_product 9 = .ok (.ireturn, 1) := by decide +kernel
theorem dX4_product_10 : decode cX4_product 10 = .ok (.iconst 0, 1) := by decide +kernel
theorem dX4_product_11 : decode cX4_product 11 = .ok (.istore_n 2, 1) := by decide +kernel
theorem dX4_product_12 : decode cX4_product 12 = .ok (.iload_n 2, 1) := by decide +kernel
theorem dX4_product_13 : decode cX4_product 13 = .ok (.sipush 200, 3) := by decide +kernel
theorem dX4_product_16 : decode cX4_product 16 = .ok (.if_icmp .ge 64, 3) := by decide +kernel
theorem dX4_product_19 : decode cX4_product 19 = .ok (.aload_n 0, 1) := by decide +kernel
theorem dX4_product_20 : decode cX4_product 20 = .ok (.getfield 33, 3) := by decide +kernel
theorem dX4_product_23 : decode cX4_product 23 = .ok (.bipush 42, 2) := by decide +kernel
theorem dX4_product_25 : decode cX4_product 25 = .ok (.if_icmp .eq 12, 3) := by decide +kernel
theorem dX4_product_28 : decode cX4_product 28 = .ok (.aload_n 0, 1) := by decide +kernel
theorem dX4_product_29 : decode cX4_product 29 = .ok (.getfield 33, 3) := by decide +kernel
theorem dX4_product_32 : decode cX4_product 32 = .ok (.bipush 47, 2) := by decide +kernel
theorem dX4_product_34 : decode cX4_product 34 = .ok (.if_icmp .ne 46, 3) := by decide +kernel
theorem dX4_product_37 : decode cX4_product 37 = .ok (.aload_n 0, 1) := by decide +kernel
theorem dX4_product_38 : decode cX4_product 38 = .ok (.getfield 33, 3) := by decide +kernel
theorem dX4_product_41 : decode cX4_product 41 = .ok (.bipush 42, 2) := by decide +kernel
theorem dX4_product_43 : decode cX4_product 43 = .ok (.if_icmp .ne 8, 3) := by decide +kernel
theorem dX4_product_46 : decode cX4_product 46 = .ok (.bipush (-4), 2) := by decide +kernel
theorem dX4_product_48 : decode cX4_product 48 = .ok (.goto 5, 3) := by decide +kernel
theorem dX4_product_51 : decode cX4_product 51 = .ok (.bipush (-5), 2) := by decide +kernel
theorem dX4_product_53 : decode cX4_product 53 = .ok (.istore_n 3, 1) := by decide +kernel
theorem dX4_product_54 : decode cX4_product 54 = .ok (.aload_n 0, 1) := by decide +kernel
theorem dX4_product_55 : decode cX4_product 55 = .ok (.invokevirtual 26, 3) := by decide +kernel
theorem dX4_product_58 : decode cX4_product 58 = .ok (.aload_n 0, 1) := by decide +kernel
theorem dX4_product_59 : decode cX4_product 59 = .ok (.iload_n 1, 1) := by decide +kernel
theorem dX4_product_60 : decode cX4_product 60 = .ok (.invokevirtual 45, 3) := by decide +kernel
theorem dX4_product_63 : decode cX4_product 63 = .ok (.ifCond .ne 5, 3) := by decide +kernel
theorem dX4_product_66 : decode cX4_product 66 = .ok (.iconst 0, 1) := by decide +kernel
theorem dX4_product_67 : decode cX4_product 67 = .ok (.ireturn, 1) := by decide +kernel
theorem dX4_product_68 : decode cX4_product 68 = .ok (.aload_n 0, 1) := by decide +kernel
theorem dX4_product_69 : decode cX4_product 69 = .ok (.iload_n 3, 1) := by decide +kernel
theorem dX4_product_70 : decode cX4_product 70 = .ok (.invokevirtual 42, 3) := by decide +kernel
theorem dX4_product_73 : decode cX4_product 73 = .ok (.pop, 1) := by decide +kernel
theorem dX4_product_74 : decode cX4_product 74 = .ok (.iinc 2 1, 3) := by decide +kernel
theorem dX4_product_77 : decode cX4_product 77 = .ok (.goto (-65), 3) := by decide +kernel
theorem dX4_product_80 : decode cX4_product 80 = .ok (.iconst 1, 1) := by decide +kernel
theorem dX4_product_81 : decode cX4_product 81 = .ok (.ireturn, 1) := by decide +kernel
theorem dX4_factor_0 : decode cX4_factor 0 = .ok (.aload_n 0, 1) := by decide +kernel
theorem dX4_factor_1 : decode cX4_factor 1 = .ok (.getfield 33, 3) := by decide +kernel
theorem dX4_factor_4 : decode cX4_factor 4 = .ok (.iconst 2, 1) := by decide +kernel
theorem dX4_factor_5 : decode cX4_factor 5 = .ok (.if_icmp .eq 11, 3) := by decide +kernel
theorem dX4_factor_8 : decode cX4_factor 8 = .ok (.aload_n 0, 1) := by decide +kernel
theorem dX4_factor_9 : decode cX4_factor 9 = .ok (.getfield 33, 3) := by decide +kernel
theorem dX4_factor_12 : decode cX4_factor 12 = .ok (.iconst 3, 1) := by decide +kernel
theorem dX4_factor_13 : decode cX4_factor 13 = .ok (.if_icmp .ne 30, 3) := by decide +kernel
theorem dX4_factor_16 : decode cX4_factor 16 = .ok (.aload_n 0, 1) := by decide +kernel
theorem dX4_factor_17 : decode cX4_factor 17 = .ok (.aload_n 0, 1) := by decide +kernel
theorem dX4_factor_18 : decode cX4_factor 18 = .ok (.getfield 33, 3) := by decide +kernel
theorem dX4_factor_21 : decode cX4_factor 21 = .ok (.iconst 3, 1) := by decide +kernel
theorem dX4_factor_22 : decode cX4_factor 22 = .ok (.if_icmp .ne 7, 3) := by decide +kernel
theorem dX4_factor_25 : decode cX4_factor 25 = .ok (.iconst (-1), 1) := by decide +kernel
theorem dX4_factor_26 : decode cX4_factor 26 = .ok (.goto 7, 3) := by decide +kernel
theorem dX4_factor_29 : decode cX4_factor 29 = .ok (.aload_n 0, 1) := by decide +kernel
theorem dX4_factor_30 : decode cX4_factor 30 = .ok (.getfield 48, 3) := by decide +kernel
theorem dX4_factor_33 : decode cX4_factor 33 = .ok (.invokevirtual 42, 3) := by decide +kernel
theorem dX4_factor_36 : decode cX4_factor 36 = .ok (.pop, 1) := by decide +kernel
theorem dX4_factor_37 : decode cX4_factor 37 = .ok (.aload_n 0, 1) := by decide +kernel
theorem dX4_factor_38 : decode cX4_factor 38 = .ok (.invokevirtual 26, 3) := by decide +kernel
theorem dX4_factor_41 : decode cX4_factor 41 = .ok (.iconst 1, 1) := by decide +kernel
theorem dX4_factor_42 : decode cX4_factor 42 = .ok (.ireturn, 1) := by decide +kernel
theorem dX4_factor_43 : decode cX4_factor 43 = .ok (.aload_n 0, 1) := by decide +kernel
theorem dX4_factor_44 : decode cX4_factor 44 = .ok (.invokevirtual 51, 3) := by decide +kernel
theorem dX4_factor_47 : decode cX4_factor 47 = .ok (.ifCond .eq 9, 3) := by decide +kernel
theorem dX4_factor_50 : decode cX4_factor 50 = .ok (.iload_n 1, 1) := by decide +kernel
theorem dX4_factor_51 : decode cX4_factor 51 = .ok (.bipush 10, 2) := by decide +kernel
theorem dX4_factor_53 : decode cX4_factor 53 = .ok (.if_icmp .lt 5, 3) := by decide +kernel
theorem dX4_factor_56 : decode cX4_factor 56 = .ok (.iconst 0, 1) := by decide +kernel
theorem dX4_factor_57 : decode cX4_factor 57 = .ok (.ireturn, 1) := by decide +kernel
theorem dX4_factor_58 : decode cX4_factor 58 = .ok (.aload_n 0, 1) := by decide +kernel
theorem dX4_factor_59 : decode cX4_factor 59 = .ok (.getfield 33, 3) := by decide +kernel
theorem dX4_factor_62 : decode cX4_factor 62 = .ok (.istore_n 2, 1) := by decide +kernel
theorem dX4_factor_63 : decode cX4_factor 63 = .ok (.aload_n 0, 1) := by decide +kernel
theorem dX4_factor_64 : decode cX4_factor 64 = .ok (.invokevirtual 26, 3) := by decide +kernel
theorem dX4_factor_67 : decode cX4_factor 67 = .ok (.aload_n 0, 1) := by decide +kernel
theorem dX4_factor_68 : decode cX4_factor 68 = .ok (.iload_n 2, 1) := by decide +kernel
theorem dX4_factor_69 : decode cX4_factor 69 = .ok (.iload_n 1, 1) := by decide +kernel
theorem dX4_factor_70 : decode cX4_factor 70 = .ok (.iconst 1, 1) := by decide +kernel
theorem dX4_factor_71 : decode cX4_factor 71 = .ok (.iadd, 1) := by decide +kernel
theorem dX4_factor_72 : decode cX4_factor 72 = .ok (.invokevirtual 55, 3) := by decide +kernel
theorem dX4_factor_75 : decode cX4_factor 75 = .ok (.ireturn, 1) := by decide +kernel
theorem dX4_opens_0 : decode cX4_opens 0 = .ok (.aload_n 0, 1) := by decide +kernel
theorem dX4_opens_1 : decode cX4_opens 1 = .ok (.getfield 33, 3) := by decide +kernel
theorem dX4_opens_4 : decode cX4_opens 4 = .ok (.bipush 40, 2) := by decide +kernel
theorem dX4_opens_6 : decode cX4_opens 6 = .ok (.if_icmp .eq 55, 3) := by decide +kernel
theorem dX4_opens_9 : decode cX4_opens 9 = .ok (.aload_n 0, 1) := by decide +kernel
theorem dX4_opens_10 : decode cX4_opens 10 = .ok (.getfield 33, 3) := by decide +kernel
theorem dX4_opens_13 : decode cX4_opens 13 = .ok (.bipush 45, 2) := by decide +kernel
theorem dX4_opens_15 : decode cX4_opens 15 = .ok (.if_icmp .eq 46, 3) := by decide +kernel
theorem dX4_opens_18 : decode cX4_opens 18 = .ok (.aload_n 0, 1) := by decide +kernel
theorem dX4_opens_19 : decode cX4_opens 19 = .ok (.getfield 33, 3) := by decide +kernel
theorem dX4_opens_22 : decode cX4_opens 22 = .ok (.iconst 4, 1) := by decide +kernel
theorem dX4_opens_23 : decode cX4_opens 23 = .ok (.if_icmp .eq 38, 3) := by decide +kernel
theorem dX4_opens_26 : decode cX4_opens 26 = .ok (.aload_n 0, 1) := by decide +kernel
theorem dX4_opens_27 : decode cX4_opens 27 = .ok (.getfield 33, 3) := by decide +kernel
theorem dX4_opens_30 : decode cX4_opens 30 = .ok (.iconst 5, 1) := by decide +kernel
theorem dX4_opens_31 : decode cX4_opens 31 = .ok (.if_icmp .eq 30, 3) := by decide +kernel
theorem dX4_opens_34 : decode cX4_opens 34 = .ok (.aload_n 0, 1) := by decide +kernel
theorem dX4_opens_35 : decode cX4_opens 35 = .ok (.getfield 33, 3) := by decide +kernel
theorem dX4_opens_38 : decode cX4_opens 38 = .ok (.bipush 6, 2) := by decide +kernel
theorem dX4_opens_40 : decode cX4_opens 40 = .ok (.if_icmp .eq 21, 3) := by decide +kernel
theorem dX4_opens_43 : decode cX4_opens 43 = .ok (.aload_n 0, 1) := by decide +kernel
theorem dX4_opens_44 : decode cX4_opens 44 = .ok (.getfield 33, 3) := by decide +kernel
theorem dX4_opens_47 : decode cX4_opens 47 = .ok (.bipush 7, 2) := by decide +kernel
theorem dX4_opens_49 : decode cX4_opens 49 = .ok (.if_icmp .eq 12, 3) := by decide +kernel
theorem dX4_opens_52 : decode cX4_opens 52 = .ok (.aload_n 0, 1) := by decide +kernel
theorem dX4_opens_53 : decode cX4_opens 53 = .ok (.getfield 33, 3) := by decide +kernel
theorem dX4_opens_56 : decode cX4_opens 56 = .ok (.bipush 8, 2) := by decide +kernel
theorem dX4_opens_58 : decode cX4_opens 58 = .ok (.if_icmp .ne 7, 3) := by decide +kernel
theorem dX4_opens_61 : decode cX4_opens 61 = .ok (.iconst 1, 1) := by decide +kernel
theorem dX4_opens_62 : decode cX4_opens 62 = .ok (.goto 4, 3) := by decide +kernel
theorem dX4_opens_65 : decode cX4_opens 65 = .ok (.iconst 0, 1) := by decide +kernel
theorem dX4_opens_66 : decode cX4_opens 66 = .ok (.ireturn, 1) := by decide +kernel
theorem dX4_opened_0 : decode cX4_opened 0 = .ok (.iload_n 1, 1) := by decide +kernel
theorem dX4_opened_1 : decode cX4_opened 1 = .ok (.lookupswitch 197 #[(4, 105), (5, 128), (6, 151), (7, 174), (40, 59), (45, 82)], 59) := by decide +kernel
theorem dX4_opened_60 : decode cX4_opened 60 = .ok (.aload_n 0, 1) := by decide +kernel
theorem dX4_opened_61 : decode cX4_opened 61 = .ok (.iload_n 2, 1) := by decide +kernel
theorem dX4_opened_62 : decode cX4_opened 62 = .ok (.invokevirtual 29, 3) := by decide +kernel
theorem dX4_opened_65 : decode cX4_opened 65 = .ok (.ifCond .eq 16, 3) := by decide +kernel
theorem dX4_opened_68 : decode cX4_opened 68 = .ok (.aload_n 0, 1) := by decide +kernel
theorem dX4_opened_69 : decode cX4_opened 69 = .ok (.bipush 41, 2) := by decide +kernel
theorem dX4_opened_71 : decode cX4_opened 71 = .ok (.invokevirtual 59, 3) := by decide +kernel
theorem dX4_opened_74 : decode cX4_opened 74 = .ok (.ifCond .eq 7, 3) := by decide +kernel
theorem dX4_opened_77 : decode cX4_opened 77 = .ok (.iconst 1, 1) := by decide +kernel
theorem dX4_opened_78 : decode cX4_opened 78 = .ok (.goto 4, 3) := by decide +kernel
theorem dX4_opened_81 : decode cX4_opened 81 = .ok (.iconst 0, 1) := by decide +kernel
theorem dX4_opened_82 : decode cX4_opened 82 = .ok (.ireturn, 1) := by decide +kernel
theorem dX4_opened_83 : decode cX4_opened 83 = .ok (.aload_n 0, 1) := by decide +kernel
theorem dX4_opened_84 : decode cX4_opened 84 = .ok (.iload_n 2, 1) := by decide +kernel
theorem dX4_opened_85 : decode cX4_opened 85 = .ok (.invokevirtual 45, 3) := by decide +kernel
theorem dX4_opened_88 : decode cX4_opened 88 = .ok (.ifCond .eq 16, 3) := by decide +kernel
theorem dX4_opened_91 : decode cX4_opened 91 = .ok (.aload_n 0, 1) := by decide +kernel
theorem dX4_opened_92 : decode cX4_opened 92 = .ok (.bipush (-6), 2) := by decide +kernel
theorem dX4_opened_94 : decode cX4_opened 94 = .ok (.invokevirtual 42, 3) := by decide +kernel
theorem dX4_opened_97 : decode cX4_opened 97 = .ok (.ifCond .eq 7, 3) := by decide +kernel
theorem dX4_opened_100 : decode cX4_opened 100 = .ok (.iconst 1, 1) := by decide +kernel
theorem dX4_opened_101 : decode cX4_opened 101 = .ok (.goto 4, 3) := by decide +kernel
theorem dX4_opened_104 : decode cX4_opened 104 = .ok (.iconst 0, 1) := by decide +kernel
theorem dX4_opened_105 : decode cX4_opened 105 = .ok (.ireturn, 1) := by decide +kernel
theorem dX4_opened_106 : decode cX4_opened 106 = .ok (.aload_n 0, 1) := by decide +kernel
theorem dX4_opened_107 : decode cX4_opened 107 = .ok (.iload_n 2, 1) := by decide +kernel
theorem dX4_opened_108 : decode cX4_opened 108 = .ok (.invokevirtual 45, 3) := by decide +kernel
theorem dX4_opened_111 : decode cX4_opened 111 = .ok (.ifCond .eq 16, 3) := by decide +kernel
theorem dX4_opened_114 : decode cX4_opened 114 = .ok (.aload_n 0, 1) := by decide +kernel
theorem dX4_opened_115 : decode cX4_opened 115 = .ok (.bipush (-7), 2) := by decide +kernel
theorem dX4_opened_117 : decode cX4_opened 117 = .ok (.invokevirtual 42, 3) := by decide +kernel
theorem dX4_opened_120 : decode cX4_opened 120 = .ok (.ifCond .eq 7, 3) := by decide +kernel
theorem dX4_opened_123 : decode cX4_opened 123 = .ok (.iconst 1, 1) := by decide +kernel
theorem dX4_opened_124 : decode cX4_opened 124 = .ok (.goto 4, 3) := by decide +kernel
theorem dX4_opened_127 : decode cX4_opened 127 = .ok (.iconst 0, 1) := by decide +kernel
theorem dX4_opened_128 : decode cX4_opened 128 = .ok (.ireturn, 1) := by decide +kernel
theorem dX4_opened_129 : decode cX4_opened 129 = .ok (.aload_n 0, 1) := by decide +kernel
theorem dX4_opened_130 : decode cX4_opened 130 = .ok (.iload_n 2, 1) := by decide +kernel
theorem dX4_opened_131 : decode cX4_opened 131 = .ok (.invokevirtual 45, 3) := by decide +kernel
theorem dX4_opened_134 : decode cX4_opened 134 = .ok (.ifCond .eq 16, 3) := by decide +kernel
theorem dX4_opened_137 : decode cX4_opened 137 = .ok (.aload_n 0, 1) := by decide +kernel
theorem dX4_opened_138 : decode cX4_opened 138 = .ok (.bipush (-8), 2) := by decide +kernel
theorem dX4_opened_140 : decode cX4_opened 140 = .ok (.invokevirtual 42, 3) := by decide +kernel
theorem dX4_opened_143 : decode cX4_opened 143 = .ok (.ifCond .eq 7, 3) := by decide +kernel
theorem dX4_opened_146 : decode cX4_opened 146 = .ok (.iconst 1, 1) := by decide +kernel
theorem dX4_opened_147 : decode cX4_opened 147 = .ok (.goto 4, 3) := by decide +kernel
theorem dX4_opened_150 : decode cX4_opened 150 = .ok (.iconst 0, 1) := by decide +kernel
theorem dX4_opened_151 : decode cX4_opened 151 = .ok (.ireturn, 1) := by decide +kernel
theorem dX4_opened_152 : decode cX4_opened 152 = .ok (.aload_n 0, 1) := by decide +kernel
theorem dX4_opened_153 : decode cX4_opened 153 = .ok (.iload_n 2, 1) := by decide +kernel
theorem dX4_opened_154 : decode cX4_opened 154 = .ok (.invokevirtual 62, 3) := by decide +kernel
theorem dX4_opened_157 : decode cX4_opened 157 = .ok (.ifCond .eq 16, 3) := by decide +kernel
theorem dX4_opened_160 : decode cX4_opened 160 = .ok (.aload_n 0, 1) := by decide +kernel
theorem dX4_opened_161 : decode cX4_opened 161 = .ok (.bipush (-9), 2) := by decide +kernel
theorem dX4_opened_163 : decode cX4_opened 163 = .ok (.invokevirtual 42, 3) := by decide +kernel
theorem dX4_opened_166 : decode cX4_opened 166 = .ok (.ifCond .eq 7, 3) := by decide +kernel
theorem dX4_opened_169 : decode cX4_opened 169 = .ok (.iconst 1, 1) := by decide +kernel
theorem dX4_opened_170 : decode cX4_opened 170 = .ok (.goto 4, 3) := by decide +kernel
theorem dX4_opened_173 : decode cX4_opened 173 = .ok (.iconst 0, 1) := by decide +kernel
theorem dX4_opened_174 : decode cX4_opened 174 = .ok (.ireturn, 1) := by decide +kernel
theorem dX4_opened_175 : decode cX4_opened 175 = .ok (.aload_n 0, 1) := by decide +kernel
theorem dX4_opened_176 : decode cX4_opened 176 = .ok (.iload_n 2, 1) := by decide +kernel
theorem dX4_opened_177 : decode cX4_opened 177 = .ok (.invokevirtual 62, 3) := by decide +kernel
theorem dX4_opened_180 : decode cX4_opened 180 = .ok (.ifCond .eq 16, 3) := by decide +kernel
theorem dX4_opened_183 : decode cX4_opened 183 = .ok (.aload_n 0, 1) := by decide +kernel
theorem dX4_opened_184 : decode cX4_opened 184 = .ok (.bipush (-10), 2) := by decide +kernel
theorem dX4_opened_186 : decode cX4_opened 186 = .ok (.invokevirtual 42, 3) := by decide +kernel
theorem dX4_opened_189 : decode cX4_opened 189 = .ok (.ifCond .eq 7, 3) := by decide +kernel
theorem dX4_opened_192 : decode cX4_opened 192 = .ok (.iconst 1, 1) := by decide +kernel
theorem dX4_opened_193 : decode cX4_opened 193 = .ok (.goto 4, 3) := by decide +kernel
theorem dX4_opened_196 : decode cX4_opened 196 = .ok (.iconst 0, 1) := by decide +kernel
theorem dX4_opened_197 : decode cX4_opened 197 = .ok (.ireturn, 1) := by decide +kernel
theorem dX4_opened_198 : decode cX4_opened 198 = .ok (.aload_n 0, 1) := by decide +kernel
theorem dX4_opened_199 : decode cX4_opened 199 = .ok (.iload_n 2, 1) := by decide +kernel
theorem dX4_opened_200 : decode cX4_opened 200 = .ok (.invokevirtual 65, 3) := by decide +kernel
theorem dX4_opened_203 : decode cX4_opened 203 = .ok (.ireturn, 1) := by decide +kernel
theorem dX4_twoInBrackets_0 : decode cX4_twoInBrackets 0 = .ok (.aload_n 0, 1) := by decide +kernel
theorem dX4_twoInBrackets_1 : decode cX4_twoInBrackets 1 = .ok (.bipush 40, 2) := by decide +kernel
theorem dX4_twoInBrackets_3 : decode cX4_twoInBrackets 3 = .ok (.invokevirtual 59, 3) := by decide +kernel
theorem dX4_twoInBrackets_6 : decode cX4_twoInBrackets 6 = .ok (.ifCond .eq 41, 3) := by decide +kernel
theorem dX4_twoInBrackets_9 : decode cX4_twoInBrackets 9 = .ok (.aload_n 0, 1) := by decide +kernel
theorem dX4_twoInBrackets_10 : decode cX4_twoInBrackets 10 = .ok (.iload_n 1, 1) := by decide +kernel
theorem dX4_twoInBrackets_11 : decode cX4_twoInBrackets 11 = .ok (.invokevirtual 29, 3) := by decide +kernel
theorem dX4_twoInBrackets_14 : decode cX4_twoInBrackets 14 = .ok (.ifCond .eq 33, 3) := by decide +kernel
theorem dX4_twoInBrackets_17 : decode cX4_twoInBrackets 17 = .ok (.aload_n 0, 1) := by decide +kernel
theorem dX4_twoInBrackets_18 : decode cX4_twoInBrackets 18 = .ok (.bipush 44, 2) := by decide +kernel
theorem dX4_twoInBrackets_20 : decode cX4_twoInBrackets 20 = .ok (.invokevirtual 59, 3) := by decide +kernel
theorem dX4_twoInBrackets_23 : decode cX4_twoInBrackets 23 = .ok (.ifCond .eq 24, 3) := by decide +kernel
theorem dX4_twoInBrackets_26 : decode cX4_twoInBrackets 26 = .ok (.aload_n 0, 1) := by decide +kernel
theorem dX4_twoInBrackets_27 : decode cX4_twoInBrackets 27 = .ok (.iload_n 1, 1) := by decide +kernel
theorem dX4_twoInBrackets_28 : decode cX4_twoInBrackets 28 = .ok (.invokevirtual 29, 3) := by decide +kernel
theorem dX4_twoInBrackets_31 : decode cX4_twoInBrackets 31 = .ok (.ifCond .eq 16, 3) := by decide +kernel
theorem dX4_twoInBrackets_34 : decode cX4_twoInBrackets 34 = .ok (.aload_n 0, 1) := by decide +kernel
theorem dX4_twoInBrackets_35 : decode cX4_twoInBrackets 35 = .ok (.bipush 41, 2) := by decide +kernel
theorem dX4_twoInBrackets_37 : decode cX4_twoInBrackets 37 = .ok (.invokevirtual 59, 3) := by decide +kernel
theorem dX4_twoInBrackets_40 : decode cX4_twoInBrackets 40 = .ok (.ifCond .eq 7, 3) := by decide +kernel
theorem dX4_twoInBrackets_43 : decode cX4_twoInBrackets 43 = .ok (.iconst 1, 1) := by decide +kernel
theorem dX4_twoInBrackets_44 : decode cX4_twoInBrackets 44 = .ok (.goto 4, 3) := by decide +kernel
theorem dX4_twoInBrackets_47 : decode cX4_twoInBrackets 47 = .ok (.iconst 0, 1) := by decide +kernel
theorem dX4_twoInBrackets_48 : decode cX4_twoInBrackets 48 = .ok (.ireturn, 1) := by decide +kernel
theorem dX4_choice_0 : decode cX4_choice 0 = .ok (.aload_n 0, 1) := by decide +kernel
theorem dX4_choice_1 : decode cX4_choice 1 = .ok (.iload_n 1, 1) := by decide +kernel
theorem dX4_choice_2 : decode cX4_choice 2 = .ok (.invokevirtual 29, 3) := by decide +kernel
theorem dX4_choice_5 : decode cX4_choice 5 = .ok (.ifCond .ne 5, 3) := by decide +kernel
theorem dX4_choice_8 : decode cX4_choice 8 = .ok (.iconst 0, 1) := by decide +kernel
theorem dX4_choice_9 : decode cX4_choice 9 = .ok (.ireturn, 1) := by decide +kernel
theorem dX4_choice_10 : decode cX4_choice 10 = .ok (.aload_n 0, 1) := by decide +kernel
theorem dX4_choice_11 : decode cX4_choice 11 = .ok (.invokevirtual 68, 3) := by decide +kernel
theorem dX4_choice_14 : decode cX4_choice 14 = .ok (.istore_n 2, 1) := by decide +kernel
theorem dX4_choice_15 : decode cX4_choice 15 = .ok (.iload_n 2, 1) := by decide +kernel
theorem dX4_choice_16 : decode cX4_choice 16 = .ok (.ifCond .ne 5, 3) := by decide +kernel
theorem dX4_choice_19 : decode cX4_choice 19 = .ok (.iconst 0, 1) := by decide +kernel
theorem dX4_choice_20 : decode cX4_choice 20 = .ok (.ireturn, 1) := by decide +kernel
theorem dX4_choice_21 : decode cX4_choice 21 = .ok (.aload_n 0, 1) := by decide +kernel
theorem dX4_choice_22 : decode cX4_choice 22 = .ok (.invokevirtual 26, 3) := by decide +kernel
theorem dX4_choice_25 : decode cX4_choice 25 = .ok (.aload_n 0, 1) := by decide +kernel
theorem dX4_choice_26 : decode cX4_choice 26 = .ok (.iload_n 1, 1) := by decide +kernel
theorem dX4_choice_27 : decode cX4_choice 27 = .ok (.invokevirtual 29, 3) := by decide +kernel
theorem dX4_choice_30 : decode cX4_choice 30 = .ok (.ifCond .eq 12, 3) := by decide +kernel
theorem dX4_choice_33 : decode cX4_choice 33 = .ok (.aload_n 0, 1) := by decide +kernel
theorem dX4_choice_34 : decode cX4_choice 34 = .ok (.getfield 33, 3) := by decide +kernel
theorem dX4_choice_37 : decode cX4_choice 37 = .ok (.bipush 9, 2) := by decide +kernel
theorem dX4_choice_39 : decode cX4_choice 39 = .ok (.if_icmp .eq 5, 3) := by decide +kernel
theorem dX4_choice_42 : decode cX4_choice 42 = .ok (.iconst 0, 1) := by decide +kernel
theorem dX4_choice_43 : decode cX4_choice 43 = .ok (.ireturn, 1) := by decide +kernel
theorem dX4_choice_44 : decode cX4_choice 44 = .ok (.aload_n 0, 1) := by decide +kernel
theorem dX4_choice_45 : decode cX4_choice 45 = .ok (.invokevirtual 26, 3) := by decide +kernel
theorem dX4_choice_48 : decode cX4_choice 48 = .ok (.aload_n 0, 1) := by decide +kernel
theorem dX4_choice_49 : decode cX4_choice 49 = .ok (.iload_n 2, 1) := by decide +kernel
theorem dX4_choice_50 : decode cX4_choice 50 = .ok (.invokevirtual 42, 3) := by decide +kernel
theorem dX4_choice_53 : decode cX4_choice 53 = .ok (.pop, 1) := by decide +kernel
theorem dX4_choice_54 : decode cX4_choice 54 = .ok (.aload_n 0, 1) := by decide +kernel
theorem dX4_choice_55 : decode cX4_choice 55 = .ok (.getfield 19, 3) := by decide +kernel
theorem dX4_choice_58 : decode cX4_choice 58 = .ok (.istore_n 3, 1) := by decide +kernel
theorem dX4_choice_59 : decode cX4_choice 59 = .ok (.aload_n 0, 1) := by decide +kernel
theorem dX4_choice_60 : decode cX4_choice 60 = .ok (.iconst 0, 1) := by decide +kernel
theorem dX4_choice_61 : decode cX4_choice 61 = .ok (.invokevirtual 42, 3) := by decide +kernel
theorem dX4_choice_64 : decode cX4_choice 64 = .ok (.pop, 1) := by decide +kernel
theorem dX4_choice_65 : decode cX4_choice 65 = .ok (.aload_n 0, 1) := by decide +kernel
theorem dX4_choice_66 : decode cX4_choice 66 = .ok (.iconst 0, 1) := by decide +kernel
theorem dX4_choice_67 : decode cX4_choice 67 = .ok (.invokevirtual 42, 3) := by decide +kernel
theorem dX4_choice_70 : decode cX4_choice 70 = .ok (.pop, 1) := by decide +kernel
theorem dX4_choice_71 : decode cX4_choice 71 = .ok (.aload_n 0, 1) := by decide +kernel
theorem dX4_choice_72 : decode cX4_choice 72 = .ok (.iload_n 1, 1) := by decide +kernel
theorem dX4_choice_73 : decode cX4_choice 73 = .ok (.invokevirtual 29, 3) := by decide +kernel
theorem dX4_choice_76 : decode cX4_choice 76 = .ok (.ifCond .eq 12, 3) := by decide +kernel
theorem dX4_choice_79 : decode cX4_choice 79 = .ok (.aload_n 0, 1) := by decide +kernel
theorem dX4_choice_80 : decode cX4_choice 80 = .ok (.getfield 33, 3) := by decide +kernel
theorem dX4_choice_83 : decode cX4_choice 83 = .ok (.bipush 10, 2) := by decide +kernel
theorem dX4_choice_85 : decode cX4_choice 85 = .ok (.if_icmp .eq 5, 3) := by decide +kernel
theorem dX4_choice_88 : decode cX4_choice 88 = .ok (.iconst 0, 1) := by decide +kernel
theorem dX4_choice_89 : decode cX4_choice 89 = .ok (.ireturn, 1) := by decide +kernel
theorem dX4_choice_90 : decode cX4_choice 90 = .ok (.aload_n 0, 1) := by decide +kernel
theorem dX4_choice_91 : decode cX4_choice 91 = .ok (.invokevirtual 26, 3) := by decide +kernel
theorem dX4_choice_94 : decode cX4_choice 94 = .ok (.aload_n 0, 1) := by decide +kernel
theorem dX4_choice_95 : decode cX4_choice 95 = .ok (.bipush (-14), 2) := by decide +kernel
theorem dX4_choice_97 : decode cX4_choice 97 = .ok (.invokevirtual 42, 3) := by decide +kernel
theorem dX4_choice_100 : decode cX4_choice 100 = .ok (.pop, 1) := by decide +kernel
theorem dX4_choice_101 : decode cX4_choice 101 = .ok (.aload_n 0, 1) := by decide +kernel
theorem dX4_choice_102 : decode cX4_choice 102 = .ok (.iconst 0, 1) := by decide +kernel
theorem dX4_choice_103 : decode cX4_choice 103 = .ok (.invokevirtual 42, 3) := by decide +kernel
theorem dX4_choice_106 : decode cX4_choice 106 = .ok (.pop, 1) := by decide +kernel
theorem dX4_choice_107 : decode cX4_choice 107 = .ok (.aload_n 0, 1) := by decide +kernel
theorem dX4_choice_108 : decode cX4_choice 108 = .ok (.iload_n 3, 1) := by decide +kernel
theorem dX4_choice_109 : decode cX4_choice 109 = .ok (.aload_n 0, 1) := by decide +kernel
theorem dX4_choice_110 : decode cX4_choice 110 = .ok (.getfield 19, 3) := by decide +kernel
theorem dX4_choice_113 : decode cX4_choice 113 = .ok (.invokevirtual 72, 3) := by decide +kernel
theorem dX4_choice_116 : decode cX4_choice 116 = .ok (.aload_n 0, 1) := by decide +kernel
theorem dX4_choice_117 : decode cX4_choice 117 = .ok (.getfield 19, 3) := by decide +kernel
theorem dX4_choice_120 : decode cX4_choice 120 = .ok (.istore 4, 2) := by decide +kernel
theorem dX4_choice_122 : decode cX4_choice 122 = .ok (.aload_n 0, 1) := by decide +kernel
theorem dX4_choice_123 : decode cX4_choice 123 = .ok (.iload_n 1, 1) := by decide +kernel
theorem dX4_choice_124 : decode cX4_choice 124 = .ok (.invokevirtual 29, 3) := by decide +kernel
theorem dX4_choice_127 : decode cX4_choice 127 = .ok (.ifCond .ne 5, 3) := by decide +kernel
theorem dX4_choice_130 : decode cX4_choice 130 = .ok (.iconst 0, 1) := by decide +kernel
theorem dX4_choice_131 : decode cX4_choice 131 = .ok (.ireturn, 1) := by decide +kernel
theorem dX4_choice_132 : decode cX4_choice 132 = .ok (.aload_n 0, 1) := by decide +kernel
theorem dX4_choice_133 : decode cX4_choice 133 = .ok (.iload_n 3, 1) := by decide +kernel
theorem dX4_choice_134 : decode cX4_choice 134 = .ok (.iconst 1, 1) := by decide +kernel
theorem dX4_choice_135 : decode cX4_choice 135 = .ok (.iadd, 1) := by decide +kernel
theorem dX4_choice_136 : decode cX4_choice 136 = .ok (.aload_n 0, 1) := by decide +kernel
theorem dX4_choice_137 : decode cX4_choice 137 = .ok (.getfield 19, 3) := by decide +kernel
theorem dX4_choice_140 : decode cX4_choice 140 = .ok (.invokevirtual 72, 3) := by decide +kernel
theorem dX4_choice_143 : decode cX4_choice 143 = .ok (.aload_n 0, 1) := by decide +kernel
theorem dX4_choice_144 : decode cX4_choice 144 = .ok (.iload 4, 2) := by decide +kernel
theorem dX4_choice_146 : decode cX4_choice 146 = .ok (.iconst 1, 1) := by decide +kernel
theorem dX4_choice_147 : decode cX4_choice 147 = .ok (.isub, 1) := by decide +kernel
theorem dX4_choice_148 : decode cX4_choice 148 = .ok (.aload_n 0, 1) := by decide +kernel
theorem dX4_choice_149 : decode cX4_choice 149 = .ok (.getfield 19, 3) := by decide +kernel
theorem dX4_choice_152 : decode cX4_choice 152 = .ok (.invokevirtual 72, 3) := by decide +kernel
theorem dX4_choice_155 : decode cX4_choice 155 = .ok (.iconst 1, 1) := by decide +kernel
theorem dX4_choice_156 : decode cX4_choice 156 = .ok (.ireturn, 1) := by decide +kernel
theorem dX4_comparison_0 : decode cX4_comparison 0 = .ok (.aload_n 0, 1) := by decide +kernel
theorem dX4_comparison_1 : decode cX4_comparison 1 = .ok (.getfield 33, 3) := by decide +kernel
theorem dX4_comparison_4 : decode cX4_comparison 4 = .ok (.tableswitch 37 60 62 #[28, 34, 31], 28) := by decide +kernel
theorem dX4_comparison_32 : decode cX4_comparison 32 = .ok (.bipush (-11), 2) := by decide +kernel
theorem dX4_comparison_34 : decode cX4_comparison 34 = .ok (.ireturn, 1) := by decide +kernel
theorem dX4_comparison_35 : decode cX4_comparison 35 = .ok (.bipush (-12), 2) := by decide +kernel
theorem dX4_comparison_37 : decode cX4_comparison 37 = .ok (.ireturn, 1) := by decide +kernel
theorem dX4_comparison_38 : decode cX4_comparison 38 = .ok (.bipush (-13), 2) := by decide +kernel
theorem dX4_comparison_40 : decode cX4_comparison 40 = .ok (.ireturn, 1) := by decide +kernel
theorem dX4_comparison_41 : decode cX4_comparison 41 = .ok (.iconst 0, 1) := by decide +kernel
theorem dX4_comparison_42 : decode cX4_comparison 42 = .ok (.ireturn, 1) := by decide +kernel
theorem dX4_pass_0 : decode cX4_pass 0 = .ok (.aload_n 0, 1) := by decide +kernel
theorem dX4_pass_1 : decode cX4_pass 1 = .ok (.getfield 33, 3) := by decide +kernel
theorem dX4_pass_4 : decode cX4_pass 4 = .ok (.iload_n 1, 1) := by decide +kernel
theorem dX4_pass_5 : decode cX4_pass 5 = .ok (.if_icmp .eq 5, 3) := by decide +kernel
theorem dX4_pass_8 : decode cX4_pass 8 = .ok (.iconst 0, 1) := by decide +kernel
theorem dX4_pass_9 : decode cX4_pass 9 = .ok (.ireturn, 1) := by decide +kernel
theorem dX4_pass_10 : decode cX4_pass 10 = .ok (.aload_n 0, 1) := by decide +kernel
theorem dX4_pass_11 : decode cX4_pass 11 = .ok (.invokevirtual 26, 3) := by decide +kernel
theorem dX4_pass_14 : decode cX4_pass 14 = .ok (.iconst 1, 1) := by decide +kernel
theorem dX4_pass_15 : decode cX4_pass 15 = .ok (.ireturn, 1) := by decide +kernel
theorem dX4_emit_0 : decode cX4_emit 0 = .ok (.aload_n 0, 1) := by decide +kernel
theorem dX4_emit_1 : decode cX4_emit 1 = .ok (.aload_n 0, 1) := by decide +kernel
theorem dX4_emit_2 : decode cX4_emit 2 = .ok (.getfield 19, 3) := by decide +kernel
theorem dX4_emit_5 : decode cX4_emit 5 = .ok (.iload_n 1, 1) := by decide +kernel
theorem dX4_emit_6 : decode cX4_emit 6 = .ok (.invokevirtual 72, 3) := by decide +kernel
theorem dX4_emit_9 : decode cX4_emit 9 = .ok (.aload_n 0, 1) := by decide +kernel
theorem dX4_emit_10 : decode cX4_emit 10 = .ok (.dup, 1) := by decide +kernel
theorem dX4_emit_11 : decode cX4_emit 11 = .ok (.getfield 19, 3) := by decide +kernel
theorem dX4_emit_14 : decode cX4_emit 14 = .ok (.iconst 1, 1) := by decide +kernel
theorem dX4_emit_15 : decode cX4_emit 15 = .ok (.iadd, 1) := by decide +kernel
theorem dX4_emit_16 : decode cX4_emit 16 = .ok (.putfield 19, 3) := by decide +kernel
theorem dX4_emit_19 : decode cX4_emit 19 = .ok (.iconst 1, 1) := by decide +kernel
theorem dX4_emit_20 : decode cX4_emit 20 = .ok (.ireturn, 1) := by decide +kernel
theorem dX4_patch_0 : decode cX4_patch 0 = .ok (.iload_n 1, 1) := by decide +kernel
theorem dX4_patch_1 : decode cX4_patch 1 = .ok (.ifCond .lt 19, 3) := by decide +kernel
theorem dX4_patch_4 : decode cX4_patch 4 = .ok (.iload_n 1, 1) := by decide +kernel
theorem dX4_patch_5 : decode cX4_patch 5 = .ok (.aload_n 0, 1) := by decide +kernel
theorem dX4_patch_6 : decode cX4_patch 6 = .ok (.getfield 11, 3) := by decide +kernel
theorem dX4_patch_9 : decode cX4_patch 9 = .ok (.arraylength, 1) := by decide +kernel
theorem dX4_patch_10 : decode cX4_patch 10 = .ok (.if_icmp .ge 10, 3) := by decide +kernel
theorem dX4_patch_13 : decode cX4_patch 13 = .ok (.aload_n 0, 1) := by decide +kernel
theorem dX4_patch_14 : decode cX4_patch 14 = .ok (.getfield 11, 3) := by decide +kernel
theorem dX4_patch_17 : decode cX4_patch 17 = .ok (.iload_n 1, 1) := by decide +kernel
theorem dX4_patch_18 : decode cX4_patch 18 = .ok (.iload_n 2, 1) := by decide +kernel
theorem dX4_patch_19 : decode cX4_patch 19 = .ok (.iastore, 1) := by decide +kernel
theorem dX4_patch_20 : decode cX4_patch 20 = .ok (.return_, 1) := by decide +kernel
theorem dX4_advance_0 : decode cX4_advance 0 = .ok (.iconst 0, 1) := by decide +kernel
theorem dX4_advance_1 : decode cX4_advance 1 = .ok (.istore_n 1, 1) := by decide +kernel
theorem dX4_advance_2 : decode cX4_advance 2 = .ok (.iload_n 1, 1) := by decide +kernel
theorem dX4_advance_3 : decode cX4_advance 3 = .ok (.sipush 200, 3) := by decide +kernel
theorem dX4_advance_6 : decode cX4_advance 6 = .ok (.if_icmp .ge 35, 3) := by decide +kernel
theorem dX4_advance_9 : decode cX4_advance 9 = .ok (.aload_n 0, 1) := by decide +kernel
theorem dX4_advance_10 : decode cX4_advance 10 = .ok (.getfield 15, 3) := by decide +kernel
theorem dX4_advance_13 : decode cX4_advance 13 = .ok (.aload_n 0, 1) := by decide +kernel
theorem dX4_advance_14 : decode cX4_advance 14 = .ok (.getfield 23, 3) := by decide +kernel
theorem dX4_advance_17 : decode cX4_advance 17 = .ok (.invokevirtual 76, 3) := by decide +kernel
theorem dX4_advance_20 : decode cX4_advance 20 = .ok (.bipush 32, 2) := by decide +kernel
theorem dX4_advance_22 : decode cX4_advance 22 = .ok (.if_icmp .ne 19, 3) := by decide +kernel
theorem dX4_advance_25 : decode cX4_advance 25 = .ok (.aload_n 0, 1) := by decide +kernel
theorem dX4_advance_26 : decode cX4_advance 26 = .ok (.dup, 1) := by decide +kernel
theorem dX4_advance_27 : decode cX4_advance 27 = .ok (.getfield 23, 3) := by decide +kernel
theorem dX4_advance_30 : decode cX4_advance 30 = .ok (.iconst 1, 1) := by decide +kernel
theorem dX4_advance_31 : decode cX4_advance 31 = .ok (.iadd, 1) := by decide +kernel
theorem dX4_advance_32 : decode cX4_advance 32 = .ok (.putfield 23, 3) := by decide +kernel
theorem dX4_advance_35 : decode cX4_advance 35 = .ok (.iinc 1 1, 3) := by decide +kernel
theorem dX4_advance_38 : decode cX4_advance 38 = .ok (.goto (-36), 3) := by decide +kernel
theorem dX4_advance_41 : decode cX4_advance 41 = .ok (.aload_n 0, 1) := by decide +kernel
theorem dX4_advance_42 : decode cX4_advance 42 = .ok (.aload_n 0, 1) := by decide +kernel
theorem dX4_advance_43 : decode cX4_advance 43 = .ok (.getfield 23, 3) := by decide +kernel
theorem dX4_advance_46 : decode cX4_advance 46 = .ok (.putfield 36, 3) := by decide +kernel
theorem dX4_advance_49 : decode cX4_advance 49 = .ok (.aload_n 0, 1) := by decide +kernel
theorem dX4_advance_50 : decode cX4_advance 50 = .ok (.getfield 15, 3) := by decide +kernel
theorem dX4_advance_53 : decode cX4_advance 53 = .ok (.aload_n 0, 1) := by decide +kernel
theorem dX4_advance_54 : decode cX4_advance 54 = .ok (.getfield 23, 3) := by decide +kernel
theorem dX4_advance_57 : decode cX4_advance 57 = .ok (.invokevirtual 76, 3) := by decide +kernel
theorem dX4_advance_60 : decode cX4_advance 60 = .ok (.istore_n 1, 1) := by decide +kernel
theorem dX4_advance_61 : decode cX4_advance 61 = .ok (.iload_n 1, 1) := by decide +kernel
theorem dX4_advance_62 : decode cX4_advance 62 = .ok (.iconst (-1), 1) := by decide +kernel
theorem dX4_advance_63 : decode cX4_advance 63 = .ok (.if_icmp .ne 11, 3) := by decide +kernel
theorem dX4_advance_66 : decode cX4_advance 66 = .ok (.aload_n 0, 1) := by decide +kernel
theorem dX4_advance_67 : decode cX4_advance 67 = .ok (.iconst 0, 1) := by decide +kernel
theorem dX4_advance_68 : decode cX4_advance 68 = .ok (.putfield 33, 3) := by decide +kernel
theorem dX4_advance_71 : decode cX4_advance 71 = .ok (.goto 60, 3) := by decide +kernel
theorem dX4_advance_74 : decode cX4_advance 74 = .ok (.iload_n 1, 1) := by decide +kernel
theorem dX4_advance_75 : decode cX4_advance 75 = .ok (.invokestatic 81, 3) := by decide +kernel
theorem dX4_advance_78 : decode cX4_advance 78 = .ok (.ifCond .eq 10, 3) := by decide +kernel
theorem dX4_advance_81 : decode cX4_advance 81 = .ok (.aload_n 0, 1) := by decide +kernel
theorem dX4_advance_82 : decode cX4_advance 82 = .ok (.invokevirtual 84, 3) := by decide +kernel
theorem dX4_advance_85 : decode cX4_advance 85 = .ok (.goto 46, 3) := by decide +kernel
theorem dX4_advance_88 : decode cX4_advance 88 = .ok (.iload_n 1, 1) := by decide +kernel
theorem dX4_advance_89 : decode cX4_advance 89 = .ok (.invokestatic 87, 3) := by decide +kernel
theorem dX4_advance_92 : decode cX4_advance 92 = .ok (.ifCond .eq 10, 3) := by decide +kernel
theorem dX4_advance_95 : decode cX4_advance 95 = .ok (.aload_n 0, 1) := by decide +kernel
theorem dX4_advance_96 : decode cX4_advance 96 = .ok (.invokevirtual 90, 3) := by decide +kernel
theorem dX4_advance_99 : decode cX4_advance 99 = .ok (.goto 32, 3) := by decide +kernel
theorem dX4_advance_102 : decode cX4_advance 102 = .ok (.aload_n 0, 1) := by decide +kernel
theorem dX4_advance_103 : decode cX4_advance 103 = .ok (.ldc 93, 2) := by decide +kernel
theorem dX4_advance_105 : decode cX4_advance 105 = .ok (.iload_n 1, 1) := by decide +kernel
theorem dX4_advance_106 : decode cX4_advance 106 = .ok (.i2c, 1) := by decide +kernel
theorem dX4_advance_107 : decode cX4_advance 107 = .ok (.invokevirtual 95, 3) := by decide +kernel
theorem dX4_advance_110 : decode cX4_advance 110 = .ok (.ifCond .lt 7, 3) := by decide +kernel
theorem dX4_advance_113 : decode cX4_advance 113 = .ok (.iload_n 1, 1) := by decide +kernel
theorem dX4_advance_114 : decode cX4_advance 114 = .ok (.goto 4, 3) := by decide +kernel
theorem dX4_advance_117 : decode cX4_advance 117 = .ok (.iconst 1, 1) := by decide +kernel
theorem dX4_advance_118 : decode cX4_advance 118 = .ok (.putfield 33, 3) := by decide +kernel
theorem dX4_advance_121 : decode cX4_advance 121 = .ok (.aload_n 0, 1) := by decide +kernel
theorem dX4_advance_122 : decode cX4_advance 122 = .ok (.dup, 1) := by decide +kernel
theorem dX4_advance_123 : decode cX4_advance 123 = .ok (.getfield 23, 3) := by decide +kernel
theorem dX4_advance_126 : decode cX4_advance 126 = .ok (.iconst 1, 1) := by decide +kernel
theorem dX4_advance_127 : decode cX4_advance 127 = .ok (.iadd, 1) := by decide +kernel
theorem dX4_advance_128 : decode cX4_advance 128 = .ok (.putfield 23, 3) := by decide +kernel
theorem dX4_advance_131 : decode cX4_advance 131 = .ok (.return_, 1) := by decide +kernel
theorem dX4_takeNumber_0 : decode cX4_takeNumber 0 = .ok (.aload_n 0, 1) := by decide +kernel
theorem dX4_takeNumber_1 : decode cX4_takeNumber 1 = .ok (.iconst 0, 1) := by decide +kernel
theorem dX4_takeNumber_2 : decode cX4_takeNumber 2 = .ok (.putfield 48, 3) := by decide +kernel
theorem dX4_takeNumber_5 : decode cX4_takeNumber 5 = .ok (.iconst 0, 1) := by decide +kernel
theorem dX4_takeNumber_6 : decode cX4_takeNumber 6 = .ok (.istore_n 1, 1) := by decide +kernel
theorem dX4_takeNumber_7 : decode cX4_takeNumber 7 = .ok (.iload_n 1, 1) := by decide +kernel
theorem dX4_takeNumber_8 : decode cX4_takeNumber 8 = .ok (.sipush 200, 3) := by decide +kernel
theorem dX4_takeNumber_11 : decode cX4_takeNumber 11 = .ok (.if_icmp .ge 67, 3) := by decide +kernel
theorem dX4_takeNumber_14 : decode cX4_takeNumber 14 = .ok (.aload_n 0, 1) := by decide +kernel
theorem dX4_takeNumber_15 : decode cX4_takeNumber 15 = .ok (.getfield 15, 3) := by decide +kernel
theorem dX4_takeNumber_18 : decode cX4_takeNumber 18 = .ok (.aload_n 0, 1) := by decide +kernel
theorem dX4_takeNumber_19 : decode cX4_takeNumber 19 = .ok (.getfield 23, 3) := by decide +kernel
theorem dX4_takeNumber_22 : decode cX4_takeNumber 22 = .ok (.invokevirtual 76, 3) := by decide +kernel
theorem dX4_takeNumber_25 : decode cX4_takeNumber 25 = .ok (.invokestatic 87, 3) := by decide +kernel
theorem dX4_takeNumber_28 : decode cX4_takeNumber 28 = .ok (.ifCond .eq 50, 3) := by decide +kernel
theorem dX4_takeNumber_31 : decode cX4_takeNumber 31 = .ok (.aload_n 0, 1) := by decide +kernel
theorem dX4_takeNumber_32 : decode cX4_takeNumber 32 = .ok (.ldc 100, 2) := by decide +kernel
theorem dX4_takeNumber_34 : decode cX4_takeNumber 34 = .ok (.aload_n 0, 1) := by decide +kernel
theorem dX4_takeNumber_35 : decode cX4_takeNumber 35 = .ok (.getfield 48, 3) := by decide +kernel
theorem dX4_takeNumber_38 : decode cX4_takeNumber 38 = .ok (.bipush 10, 2) := by decide +kernel
theorem dX4_takeNumber_40 : decode cX4_takeNumber 40 = .ok (.imul, 1) := by decide +kernel
theorem dX4_takeNumber_41 : decode cX4_takeNumber 41 = .ok (.aload_n 0, 1) := by decide +kernel
theorem dX4_takeNumber_42 : decode cX4_takeNumber 42 = .ok (.getfield 15, 3) := by decide +kernel
theorem dX4_takeNumber_45 : decode cX4_takeNumber 45 = .ok (.aload_n 0, 1) := by decide +kernel
theorem dX4_takeNumber_46 : decode cX4_takeNumber 46 = .ok (.getfield 23, 3) := by decide +kernel
theorem dX4_takeNumber_49 : decode cX4_takeNumber 49 = .ok (.invokevirtual 76, 3) := by decide +kernel
theorem dX4_takeNumber_52 : decode cX4_takeNumber 52 = .ok (.iadd, 1) := by decide +kernel
theorem dX4_takeNumber_53 : decode cX4_takeNumber 53 = .ok (.bipush 48, 2) := by decide +kernel
theorem dX4_takeNumber_55 : decode cX4_takeNumber 55 = .ok (.isub, 1) := by decide +kernel
theorem dX4_takeNumber_56 : decode cX4_takeNumber 56 = .ok (.invokestatic 101, 3) := by decide +kernel
theorem dX4_takeNumber_59 : decode cX4_takeNumber 59 = .ok (.putfield 48, 3) := by decide +kernel
theorem dX4_takeNumber_62 : decode cX4_takeNumber 62 = .ok (.aload_n 0, 1) := by decide +kernel
theorem dX4_takeNumber_63 : decode cX4_takeNumber 63 = .ok (.dup, 1) := by decide +kernel
theorem dX4_takeNumber_64 : decode cX4_takeNumber 64 = .ok (.getfield 23, 3) := by decide +kernel
theorem dX4_takeNumber_67 : decode cX4_takeNumber 67 = .ok (.iconst 1, 1) := by decide +kernel
theorem dX4_takeNumber_68 : decode cX4_takeNumber 68 = .ok (.iadd, 1) := by decide +kernel
theorem dX4_takeNumber_69 : decode cX4_takeNumber 69 = .ok (.putfield 23, 3) := by decide +kernel
theorem dX4_takeNumber_72 : decode cX4_takeNumber 72 = .ok (.iinc 1 1, 3) := by decide +kernel
theorem dX4_takeNumber_75 : decode cX4_takeNumber 75 = .ok (.goto (-68), 3) := by decide +kernel
theorem dX4_takeNumber_78 : decode cX4_takeNumber 78 = .ok (.aload_n 0, 1) := by decide +kernel
theorem dX4_takeNumber_79 : decode cX4_takeNumber 79 = .ok (.aload_n 0, 1) := by decide +kernel
theorem dX4_takeNumber_80 : decode cX4_takeNumber 80 = .ok (.getfield 48, 3) := by decide +kernel
theorem dX4_takeNumber_83 : decode cX4_takeNumber 83 = .ok (.ldc 107, 2) := by decide +kernel
theorem dX4_takeNumber_85 : decode cX4_takeNumber 85 = .ok (.if_icmp .le 7, 3) := by decide +kernel
theorem dX4_takeNumber_88 : decode cX4_takeNumber 88 = .ok (.iconst 1, 1) := by decide +kernel
theorem dX4_takeNumber_89 : decode cX4_takeNumber 89 = .ok (.goto 4, 3) := by decide +kernel
theorem dX4_takeNumber_92 : decode cX4_takeNumber 92 = .ok (.iconst 2, 1) := by decide +kernel
theorem dX4_takeNumber_93 : decode cX4_takeNumber 93 = .ok (.putfield 33, 3) := by decide +kernel
theorem dX4_takeNumber_96 : decode cX4_takeNumber 96 = .ok (.return_, 1) := by decide +kernel
theorem dX4_takeWord_0 : decode cX4_takeWord 0 = .ok (.iconst 0, 1) := by decide +kernel
theorem dX4_takeWord_1 : decode cX4_takeWord 1 = .ok (.istore_n 1, 1) := by decide +kernel
theorem dX4_takeWord_2 : decode cX4_takeWord 2 = .ok (.iload_n 1, 1) := by decide +kernel
theorem dX4_takeWord_3 : decode cX4_takeWord 3 = .ok (.sipush 200, 3) := by decide +kernel
theorem dX4_takeWord_6 : decode cX4_takeWord 6 = .ok (.if_icmp .ge 36, 3) := by decide +kernel
theorem dX4_takeWord_9 : decode cX4_takeWord 9 = .ok (.aload_n 0, 1) := by decide +kernel
theorem dX4_takeWord_10 : decode cX4_takeWord 10 = .ok (.getfield 15, 3) := by decide +kernel
theorem dX4_takeWord_13 : decode cX4_takeWord 13 = .ok (.aload_n 0, 1) := by decide +kernel
theorem dX4_takeWord_14 : decode cX4_takeWord 14 = .ok (.getfield 23, 3) := by decide +kernel
theorem dX4_takeWord_17 : decode cX4_takeWord 17 = .ok (.invokevirtual 76, 3) := by decide +kernel
theorem dX4_takeWord_20 : decode cX4_takeWord 20 = .ok (.invokestatic 81, 3) := by decide +kernel
theorem dX4_takeWord_23 : decode cX4_takeWord 23 = .ok (.ifCond .eq 19, 3) := by decide +kernel
theorem dX4_takeWord_26 : decode cX4_takeWord 26 = .ok (.aload_n 0, 1) := by decide +kernel
theorem dX4_takeWord_27 : decode cX4_takeWord 27 = .ok (.dup, 1) := by decide +kernel
theorem dX4_takeWord_28 : decode cX4_takeWord 28 = .ok (.getfield 23, 3) := by decide +kernel
theorem dX4_takeWord_31 : decode cX4_takeWord 31 = .ok (.iconst 1, 1) := by decide +kernel
theorem dX4_takeWord_32 : decode cX4_takeWord 32 = .ok (.iadd, 1) := by decide +kernel
theorem dX4_takeWord_33 : decode cX4_takeWord 33 = .ok (.putfield 23, 3) := by decide +kernel
theorem dX4_takeWord_36 : decode cX4_takeWord 36 = .ok (.iinc 1 1, 3) := by decide +kernel
theorem dX4_takeWord_39 : decode cX4_takeWord 39 = .ok (.goto (-37), 3) := by decide +kernel
theorem dX4_takeWord_42 : decode cX4_takeWord 42 = .ok (.aload_n 0, 1) := by decide +kernel
theorem dX4_takeWord_43 : decode cX4_takeWord 43 = .ok (.aload_n 0, 1) := by decide +kernel
theorem dX4_takeWord_44 : decode cX4_takeWord 44 = .ok (.ldc 108, 2) := by decide +kernel
theorem dX4_takeWord_46 : decode cX4_takeWord 46 = .ok (.invokevirtual 110, 3) := by decide +kernel
theorem dX4_takeWord_49 : decode cX4_takeWord 49 = .ok (.ifCond .eq 7, 3) := by decide +kernel
theorem dX4_takeWord_52 : decode cX4_takeWord 52 = .ok (.iconst 3, 1) := by decide +kernel
theorem dX4_takeWord_53 : decode cX4_takeWord 53 = .ok (.goto 100, 3) := by decide +kernel
theorem dX4_takeWord_56 : decode cX4_takeWord 56 = .ok (.aload_n 0, 1) := by decide +kernel
theorem dX4_takeWord_57 : decode cX4_takeWord 57 = .ok (.ldc 114, 2) := by decide +kernel
theorem dX4_takeWord_59 : decode cX4_takeWord 59 = .ok (.invokevirtual 110, 3) := by decide +kernel
theorem dX4_takeWord_62 : decode cX4_takeWord 62 = .ok (.ifCond .eq 7, 3) := by decide +kernel
theorem dX4_takeWord_65 : decode cX4_takeWord 65 = .ok (.iconst 4, 1) := by decide +kernel
theorem dX4_takeWord_66 : decode cX4_takeWord 66 = .ok (.goto 87, 3) := by decide +kernel
theorem dX4_takeWord_69 : decode cX4_takeWord 69 = .ok (.aload_n 0, 1) := by decide +kernel
theorem dX4_takeWord_70 : decode cX4_takeWord 70 = .ok (.ldc 116, 2) := by decide +kernel
theorem dX4_takeWord_72 : decode cX4_takeWord 72 = .ok (.invokevirtual 110, 3) := by decide +kernel
theorem dX4_takeWord_75 : decode cX4_takeWord 75 = .ok (.ifCond .eq 7, 3) := by decide +kernel
theorem dX4_takeWord_78 : decode cX4_takeWord 78 = .ok (.iconst 5, 1) := by decide +kernel
theorem dX4_takeWord_79 : decode cX4_takeWord 79 = .ok (.goto 74, 3) := by decide +kernel
theorem dX4_takeWord_82 : decode cX4_takeWord 82 = .ok (.aload_n 0, 1) := by decide +kernel
theorem dX4_takeWord_83 : decode cX4_takeWord 83 = .ok (.ldc 118, 2) := by decide +kernel
theorem dX4_takeWord_85 : decode cX4_takeWord 85 = .ok (.invokevirtual 110, 3) := by decide +kernel
theorem dX4_takeWord_88 : decode cX4_takeWord 88 = .ok (.ifCond .eq 8, 3) := by decide +kernel
theorem dX4_takeWord_91 : decode cX4_takeWord 91 = .ok (.bipush 6, 2) := by decide +kernel
theorem dX4_takeWord_93 : decode cX4_takeWord 93 = .ok (.goto 60, 3) := by decide +kernel
theorem dX4_takeWord_96 : decode cX4_takeWord 96 = .ok (.aload_n 0, 1) := by decide +kernel
theorem dX4_takeWord_97 : decode cX4_takeWord 97 = .ok (.ldc 120, 2) := by decide +kernel
theorem dX4_takeWord_99 : decode cX4_takeWord 99 = .ok (.invokevirtual 110, 3) := by decide +kernel
theorem dX4_takeWord_102 : decode cX4_takeWord 102 = .ok (.ifCond .eq 8, 3) := by decide +kernel
theorem dX4_takeWord_105 : decode cX4_takeWord 105 = .ok (.bipush 7, 2) := by decide +kernel
theorem dX4_takeWord_107 : decode cX4_takeWord 107 = .ok (.goto 46, 3) := by decide +kernel
theorem dX4_takeWord_110 : decode cX4_takeWord 110 = .ok (.aload_n 0, 1) := by decide +kernel
theorem dX4_takeWord_111 : decode cX4_takeWord 111 = .ok (.ldc 122, 2) := by decide +kernel
theorem dX4_takeWord_113 : decode cX4_takeWord 113 = .ok (.invokevirtual 110, 3) := by decide +kernel
theorem dX4_takeWord_116 : decode cX4_takeWord 116 = .ok (.ifCond .eq 8, 3) := by decide +kernel
theorem dX4_takeWord_119 : decode cX4_takeWord 119 = .ok (.bipush 8, 2) := by decide +kernel
theorem dX4_takeWord_121 : decode cX4_takeWord 121 = .ok (.goto 32, 3) := by decide +kernel
theorem dX4_takeWord_124 : decode cX4_takeWord 124 = .ok (.aload_n 0, 1) := by decide +kernel
theorem dX4_takeWord_125 : decode cX4_takeWord 125 = .ok (.ldc 124, 2) := by decide +kernel
theorem dX4_takeWord_127 : decode cX4_takeWord 127 = .ok (.invokevirtual 110, 3) := by decide +kernel
theorem dX4_takeWord_130 : decode cX4_takeWord 130 = .ok (.ifCond .eq 8, 3) := by decide +kernel
theorem dX4_takeWord_133 : decode cX4_takeWord 133 = .ok (.bipush 9, 2) := by decide +kernel
theorem dX4_takeWord_135 : decode cX4_takeWord 135 = .ok (.goto 18, 3) := by decide +kernel
theorem dX4_takeWord_138 : decode cX4_takeWord 138 = .ok (.aload_n 0, 1) := by decide +kernel
theorem dX4_takeWord_139 : decode cX4_takeWord 139 = .ok (.ldc 126, 2) := by decide +kernel
theorem dX4_takeWord_141 : decode cX4_takeWord 141 = .ok (.invokevirtual 110, 3) := by decide +kernel
theorem dX4_takeWord_144 : decode cX4_takeWord 144 = .ok (.ifCond .eq 8, 3) := by decide +kernel
theorem dX4_takeWord_147 : decode cX4_takeWord 147 = .ok (.bipush 10, 2) := by decide +kernel
theorem dX4_takeWord_149 : decode cX4_takeWord 149 = .ok (.goto 4, 3) := by decide +kernel
theorem dX4_takeWord_152 : decode cX4_takeWord 152 = .ok (.iconst 1, 1) := by decide +kernel
theorem dX4_takeWord_153 : decode cX4_takeWord 153 = .ok (.putfield 33, 3) := by decide +kernel
theorem dX4_takeWord_156 : decode cX4_takeWord 156 = .ok (.return_, 1) := by decide +kernel
theorem dX4_isWord_0 : decode cX4_isWord 0 = .ok (.aload_n 1, 1) := by decide +kernel
theorem dX4_isWord_1 : decode cX4_isWord 1 = .ok (.invokevirtual 128, 3) := by decide +kernel
theorem dX4_isWord_4 : decode cX4_isWord 4 = .ok (.aload_n 0, 1) := by decide +kernel
theorem dX4_isWord_5 : decode cX4_isWord 5 = .ok (.getfield 23, 3) := by decide +kernel
theorem dX4_isWord_8 : decode cX4_isWord 8 = .ok (.aload_n 0, 1) := by decide +kernel
theorem dX4_isWord_9 : decode cX4_isWord 9 = .ok (.getfield 36, 3) := by decide +kernel
theorem dX4_isWord_12 : decode cX4_isWord 12 = .ok (.isub, 1) := by decide +kernel
theorem dX4_isWord_13 : decode cX4_isWord 13 = .ok (.if_icmp .eq 5, 3) := by decide +kernel
theorem dX4_isWord_16 : decode cX4_isWord 16 = .ok (.iconst 0, 1) := by decide +kernel
theorem dX4_isWord_17 : decode cX4_isWord 17 = .ok (.ireturn, 1) := by decide +kernel
theorem dX4_isWord_18 : decode cX4_isWord 18 = .ok (.iconst 0, 1) := by decide +kernel
theorem dX4_isWord_19 : decode cX4_isWord 19 = .ok (.istore_n 2, 1) := by decide +kernel
theorem dX4_isWord_20 : decode cX4_isWord 20 = .ok (.iload_n 2, 1) := by decide +kernel
theorem dX4_isWord_21 : decode cX4_isWord 21 = .ok (.aload_n 1, 1) := by decide +kernel
theorem dX4_isWord_22 : decode cX4_isWord 22 = .ok (.invokevirtual 128, 3) := by decide +kernel
theorem dX4_isWord_25 : decode cX4_isWord 25 = .ok (.if_icmp .ge 32, 3) := by decide +kernel
theorem dX4_isWord_28 : decode cX4_isWord 28 = .ok (.aload_n 1, 1) := by decide +kernel
theorem dX4_isWord_29 : decode cX4_isWord 29 = .ok (.iload_n 2, 1) := by decide +kernel
theorem dX4_isWord_30 : decode cX4_isWord 30 = .ok (.invokevirtual 131, 3) := by decide +kernel
theorem dX4_isWord_33 : decode cX4_isWord 33 = .ok (.aload_n 0, 1) := by decide +kernel
theorem dX4_isWord_34 : decode cX4_isWord 34 = .ok (.getfield 15, 3) := by decide +kernel
theorem dX4_isWord_37 : decode cX4_isWord 37 = .ok (.aload_n 0, 1) := by decide +kernel
theorem dX4_isWord_38 : decode cX4_isWord 38 = .ok (.getfield 36, 3) := by decide +kernel
theorem dX4_isWord_41 : decode cX4_isWord 41 = .ok (.iload_n 2, 1) := by decide +kernel
theorem dX4_isWord_42 : decode cX4_isWord 42 = .ok (.iadd, 1) := by decide +kernel
theorem dX4_isWord_43 : decode cX4_isWord 43 = .ok (.invokevirtual 76, 3) := by decide +kernel
theorem dX4_isWord_46 : decode cX4_isWord 46 = .ok (.if_icmp .eq 5, 3) := by decide +kernel
theorem dX4_isWord_49 : decode cX4_isWord 49 = .ok (.iconst 0, 1) := by decide +kernel
theorem dX4_isWord_50 : decode cX4_isWord 50 = .ok (.ireturn, 1) := by decide +kernel
theorem dX4_isWord_51 : decode cX4_isWord 51 = .ok (.iinc 2 1, 3) := by decide +kernel
theorem dX4_isWord_54 : decode cX4_isWord 54 = .ok (.goto (-34), 3) := by decide +kernel
theorem dX4_isWord_57 : decode cX4_isWord 57 = .ok (.iconst 1, 1) := by decide +kernel
theorem dX4_isWord_58 : decode cX4_isWord 58 = .ok (.ireturn, 1) := by decide +kernel
theorem dX4_isLetter_0 : decode cX4_isLetter 0 = .ok (.iload_n 0, 1) := by decide +kernel
theorem dX4_isLetter_1 : decode cX4_isLetter 1 = .ok (.bipush 97, 2) := by decide +kernel
theorem dX4_isLetter_3 : decode cX4_isLetter 3 = .ok (.if_icmp .lt 13, 3) := by decide +kernel
theorem dX4_isLetter_6 : decode cX4_isLetter 6 = .ok (.iload_n 0, 1) := by decide +kernel
theorem dX4_isLetter_7 : decode cX4_isLetter 7 = .ok (.bipush 122, 2) := by decide +kernel
theorem dX4_isLetter_9 : decode cX4_isLetter 9 = .ok (.if_icmp .gt 7, 3) := by decide +kernel
theorem dX4_isLetter_12 : decode cX4_isLetter 12 = .ok (.iconst 1, 1) := by decide +kernel
theorem dX4_isLetter_13 : decode cX4_isLetter 13 = .ok (.goto 4, 3) := by decide +kernel
theorem dX4_isLetter_16 : decode cX4_isLetter 16 = .ok (.iconst 0, 1) := by decide +kernel
theorem dX4_isLetter_17 : decode cX4_isLetter 17 = .ok (.ireturn, 1) := by decide +kernel
theorem dX4_isDigit_0 : decode cX4_isDigit 0 = .ok (.iload_n 0, 1) := by decide +kernel
theorem dX4_isDigit_1 : decode cX4_isDigit 1 = .ok (.bipush 48, 2) := by decide +kernel
theorem dX4_isDigit_3 : decode cX4_isDigit 3 = .ok (.if_icmp .lt 13, 3) := by decide +kernel
theorem dX4_isDigit_6 : decode cX4_isDigit 6 = .ok (.iload_n 0, 1) := by decide +kernel
theorem dX4_isDigit_7 : decode cX4_isDigit 7 = .ok (.bipush 57, 2) := by decide +kernel
theorem dX4_isDigit_9 : decode cX4_isDigit 9 = .ok (.if_icmp .gt 7, 3) := by decide +kernel
theorem dX4_isDigit_12 : decode cX4_isDigit 12 = .ok (.iconst 1, 1) := by decide +kernel
theorem dX4_isDigit_13 : decode cX4_isDigit 13 = .ok (.goto 4, 3) := by decide +kernel
theorem dX4_isDigit_16 : decode cX4_isDigit 16 = .ok (.iconst 0, 1) := by decide +kernel
theorem dX4_isDigit_17 : decode cX4_isDigit 17 = .ok (.ireturn, 1) := by decide +kernel
theorem dX5_init_0 : decode cX5_init 0 = .ok (.aload_n 0, 1) := by decide +kernel
theorem dX5_init_1 : decode cX5_init 1 = .ok (.invokespecial 3, 3) := by decide +kernel
theorem dX5_init_4 : decode cX5_init 4 = .ok (.aload_n 0, 1) := by decide +kernel
theorem dX5_init_5 : decode cX5_init 5 = .ok (.iconst 5, 1) := by decide +kernel
theorem dX5_init_6 : decode cX5_init 6 = .ok (.newarray .long, 2) := by decide +kernel
theorem dX5_init_8 : decode cX5_init 8 = .ok (.putfield 11, 3) := by decide +kernel
theorem dX5_init_11 : decode cX5_init 11 = .ok (.aload_n 0, 1) := by decide +kernel
theorem dX5_init_12 : decode cX5_init 12 = .ok (.bipush 31, 2) := by decide +kernel
theorem dX5_init_14 : decode cX5_init 14 = .ok (.newarray .int, 2) := by decide +kernel
theorem dX5_init_16 : decode cX5_init 16 = .ok (.putfield 17, 3) := by decide +kernel
theorem dX5_init_19 : decode cX5_init 19 = .ok (.return_, 1) := by decide +kernel
theorem dX5_settingCost_0 : decode cX5_settingCost 0 = .ok (.bipush 14, 2) := by decide +kernel
theorem dX5_settingCost_2 : decode cX5_settingCost 2 = .ok (.iconst 4, 1) := by decide +kernel
theorem dX5_settingCost_3 : decode cX5_settingCost 3 = .ok (.iload_n 0, 1) := by decide +kernel
theorem dX5_settingCost_4 : decode cX5_settingCost 4 = .ok (.imul, 1) := by decide +kernel
theorem dX5_settingCost_5 : decode cX5_settingCost 5 = .ok (.iadd, 1) := by decide +kernel
theorem dX5_settingCost_6 : decode cX5_settingCost 6 = .ok (.ireturn, 1) := by decide +kernel
theorem dX5_leastCost_0 : decode cX5_leastCost 0 = .ok (.aload_n 0, 1) := by decide +kernel
theorem dX5_leastCost_1 : decode cX5_leastCost 1 = .ok (.getfield 17, 3) := by decide +kernel
theorem dX5_leastCost_4 : decode cX5_leastCost 4 = .ok (.sipush 900, 3) := by decide +kernel
theorem dX5_leastCost_7 : decode cX5_leastCost 7 = .ok (.invokestatic 21, 3) := by decide +kernel
theorem dX5_leastCost_10 : decode cX5_leastCost 10 = .ok (.aload_n 0, 1) := by decide +kernel
theorem dX5_leastCost_11 : decode cX5_leastCost 11 = .ok (.getfield 17, 3) := by decide +kernel
theorem dX5_leastCost_14 : decode cX5_leastCost 14 = .ok (.iconst 0, 1) := by decide +kernel
theorem dX5_leastCost_15 : decode cX5_leastCost 15 = .ok (.iconst 0, 1) := by decide +kernel
theorem dX5_leastCost_16 : decode cX5_leastCost 16 = .ok (.iastore, 1) := by decide +kernel
theorem dX5_leastCost_17 : decode cX5_leastCost 17 = .ok (.iconst 0, 1) := by decide +kernel
theorem dX5_leastCost_18 : decode cX5_leastCost 18 = .ok (.istore_n 3, 1) := by decide +kernel
theorem dX5_leastCost_19 : decode cX5_leastCost 19 = .ok (.iload_n 3, 1) := by decide +kernel
theorem dX5_leastCost_20 : decode cX5_leastCost 20 = .ok (.aload_n 1, 1) := by decide +kernel
theorem dX5_leastCost_21 : decode cX5_leastCost 21 = .ok (.getfield 27, 3) := by decide +kernel
theorem dX5_leastCost_24 : decode cX5_leastCost 24 = .ok (.if_icmp .ge 86, 3) := by decide +kernel
theorem dX5_leastCost_27 : decode cX5_leastCost 27 = .ok (.iload_n 3, 1) := by decide +kernel
theorem dX5_leastCost_28 : decode cX5_leastCost 28 = .ok (.bipush 30, 2) := by decide +kernel
theorem dX5_leastCost_30 : decode cX5_leastCost 30 = .ok (.if_icmp .ge 80, 3) := by decide +kernel
theorem dX5_leastCost_33 : decode cX5_leastCost 33 = .ok (.aload_n 1, 1) := by decide +kernel
theorem dX5_leastCost_34 : decode cX5_leastCost 34 = .ok (.iload_n 3, 1) := by decide +kernel
theorem dX5_leastCost_35 : decode cX5_leastCost 35 = .ok (.invokevirtual 33, 3) := by decide +kernel
theorem dX5_leastCost_38 : decode cX5_leastCost 38 = .ok (.ldc 37, 2) := by decide +kernel
theorem dX5_leastCost_40 : decode cX5_leastCost 40 = .ok (.if_icmp .ne 7, 3) := by decide +kernel
theorem dX5_leastCost_43 : decode cX5_leastCost 43 = .ok (.iconst 1, 1) := by decide +kernel
theorem dX5_leastCost_44 : decode cX5_leastCost 44 = .ok (.goto 4, 3) := by decide +kernel
theorem dX5_leastCost_47 : decode cX5_leastCost 47 = .ok (.iconst 0, 1) := by decide +kernel
theorem dX5_leastCost_48 : decode cX5_leastCost 48 = .ok (.istore 4, 2) := by decide +kernel
theorem dX5_leastCost_50 : decode cX5_leastCost 50 = .ok (.aload_n 0, 1) := by decide +kernel
theorem dX5_leastCost_51 : decode cX5_leastCost 51 = .ok (.iload_n 3, 1) := by decide +kernel
theorem dX5_leastCost_52 : decode cX5_leastCost 52 = .ok (.iconst 1, 1) := by decide +kernel
theorem dX5_leastCost_53 : decode cX5_leastCost 53 = .ok (.iadd, 1) := by decide +kernel
theorem dX5_leastCost_54 : decode cX5_leastCost 54 = .ok (.aload_n 0, 1) := by decide +kernel
theorem dX5_leastCost_55 : decode cX5_leastCost 55 = .ok (.getfield 17, 3) := by decide +kernel
theorem dX5_leastCost_58 : decode cX5_leastCost 58 = .ok (.iload_n 3, 1) := by decide +kernel
theorem dX5_leastCost_59 : decode cX5_leastCost 59 = .ok (.iaload, 1) := by decide +kernel
theorem dX5_leastCost_60 : decode cX5_leastCost 60 = .ok (.iload 4, 2) := by decide +kernel
theorem dX5_leastCost_62 : decode cX5_leastCost 62 = .ok (.ifCond .eq 7, 3) := by decide +kernel
theorem dX5_leastCost_65 : decode cX5_leastCost 65 = .ok (.iconst 0, 1) := by decide +kernel
theorem dX5_leastCost_66 : decode cX5_leastCost 66 = .ok (.goto 5, 3) := by decide +kernel
theorem dX5_leastCost_69 : decode cX5_leastCost 69 = .ok (.bipush 30, 2) := by decide +kernel
theorem dX5_leastCost_71 : decode cX5_leastCost 71 = .ok (.iadd, 1) := by decide +kernel
theorem dX5_leastCost_72 : decode cX5_leastCost 72 = .ok (.invokevirtual 38, 3) := by decide +kernel
theorem dX5_leastCost_75 : decode cX5_leastCost 75 = .ok (.iconst 1, 1) := by decide +kernel
theorem dX5_leastCost_76 : decode cX5_leastCost 76 = .ok (.istore 5, 2) := by decide +kernel
theorem dX5_leastCost_78 : decode cX5_leastCost 78 = .ok (.iload 5, 2) := by decide +kernel
theorem dX5_leastCost_80 : decode cX5_leastCost 80 = .ok (.iconst 5, 1) := by decide +kernel
theorem dX5_leastCost_81 : decode cX5_leastCost 81 = .ok (.if_icmp .ge 23, 3) := by decide +kernel
theorem dX5_leastCost_84 : decode cX5_leastCost 84 = .ok (.iload 4, 2) := by decide +kernel
theorem dX5_leastCost_86 : decode cX5_leastCost 86 = .ok (.ifCond .ne 18, 3) := by decide +kernel
theorem dX5_leastCost_89 : decode cX5_leastCost 89 = .ok (.aload_n 0, 1) := by decide +kernel
theorem dX5_leastCost_90 : decode cX5_leastCost 90 = .ok (.aload_n 1, 1) := by decide +kernel
theorem dX5_leastCost_91 : decode cX5_leastCost 91 = .ok (.iload_n 3, 1) := by decide +kernel
theorem dX5_leastCost_92 : decode cX5_leastCost 92 = .ok (.iload 5, 2) := by decide +kernel
theorem dX5_leastCost_94 : decode cX5_leastCost 94 = .ok (.iload_n 2, 1) := by decide +kernel
theorem dX5_leastCost_95 : decode cX5_leastCost 95 = .ok (.invokevirtual 42, 3) := by decide +kernel
theorem dX5_leastCost_98 : decode cX5_leastCost 98 = .ok (.iinc 5 1, 3) := by decide +kernel
theorem dX5_leastCost_101 : decode cX5_leastCost 101 = .ok (.goto (-23), 3) := by decide +kernel
theorem dX5_leastCost_104 : decode cX5_leastCost 104 = .ok (.iinc 3 1, 3) := by decide +kernel
theorem dX5_leastCost_107 : decode cX5_leastCost 107 = .ok (.goto (-88), 3) := by decide +kernel
theorem dX5_leastCost_110 : decode cX5_leastCost 110 = .ok (.aload_n 1, 1) := by decide +kernel
theorem dX5_leastCost_111 : decode cX5_leastCost 111 = .ok (.getfield 27, 3) := by decide +kernel
theorem dX5_leastCost_114 : decode cX5_leastCost 114 = .ok (.aload_n 0, 1) := by decide +kernel
theorem dX5_leastCost_115 : decode cX5_leastCost 115 = .ok (.getfield 17, 3) := by decide +kernel
theorem dX5_leastCost_118 : decode cX5_leastCost 118 = .ok (.arraylength, 1) := by decide +kernel
theorem dX5_leastCost_119 : decode cX5_leastCost 119 = .ok (.if_icmp .ge 15, 3) := by decide +kernel
theorem dX5_leastCost_122 : decode cX5_leastCost 122 = .ok (.aload_n 0, 1) := by decide +kernel
theorem dX5_leastCost_123 : decode cX5_leastCost 123 = .ok (.getfield 17, 3) := by decide +kernel
theorem dX5_leastCost_126 : decode cX5_leastCost 126 = .ok (.aload_n 1, 1) := by decide +kernel
theorem dX5_leastCost_127 : decode cX5_leastCost 127 = .ok (.getfield 27, 3) := by decide +kernel
theorem dX5_leastCost_130 : decode cX5_leastCost 130 = .ok (.iaload, 1) := by decide +kernel
theorem dX5_leastCost_131 : decode cX5_leastCost 131 = .ok (.goto 4, 3) := by decide +kernel
theorem dX5_leastCost_134 : decode cX5_leastCost 134 = .ok (.iconst (-1), 1) := by decide +kernel
theorem dX5_leastCost_135 : decode cX5_leastCost 135 = .ok (.ireturn, 1) := by decide +kernel
theorem dX5_offer_0 : decode cX5_offer 0 = .ok (.iload_n 1, 1) := by decide +kernel
theorem dX5_offer_1 : decode cX5_offer 1 = .ok (.ifCond .lt 29, 3) := by decide +kernel
theorem dX5_offer_4 : decode cX5_offer 4 = .ok (.iload_n 1, 1) := by decide +kernel
theorem dX5_offer_5 : decode cX5_offer 5 = .ok (.aload_n 0, 1) := by decide +kernel
theorem dX5_offer_6 : decode cX5_offer 6 = .ok (.getfield 17, 3) := by decide +kernel
theorem dX5_offer_9 : decode cX5_offer 9 = .ok (.arraylength, 1) := by decide +kernel
theorem dX5_offer_10 : decode cX5_offer 10 = .ok (.if_icmp .ge 20, 3) := by decide +kernel
theorem dX5_offer_13 : decode cX5_offer 13 = .ok (.iload_n 2, 1) := by decide +kernel
theorem dX5_offer_14 : decode cX5_offer 14 = .ok (.aload_n 0, 1) := by decide +kernel
theorem dX5_offer_15 : decode cX5_offer 15 = .ok (.getfield 17, 3) := by decide +kernel
theorem dX5_offer_18 : decode cX5_offer 18 = .ok (.iload_n 1, 1) := by decide +kernel
theorem dX5_offer_19 : decode cX5_offer 19 = .ok (.iaload, 1) := by decide +kernel
theorem dX5_offer_20 : decode cX5_offer 20 = .ok (.if_icmp .ge 10, 3) := by decide +kernel
theorem dX5_offer_23 : decode cX5_offer 23 = .ok (.aload_n 0, 1) := by decide +kernel
theorem dX5_offer_24 : decode cX5_offer 24 = .ok (.getfield 17, 3) := by decide +kernel
theorem dX5_offer_27 : decode cX5_offer 27 = .ok (.iload_n 1, 1) := by decide +kernel
theorem dX5_offer_28 : decode cX5_offer 28 = .ok (.iload_n 2, 1) := by decide +kernel
theorem dX5_offer_29 : decode cX5_offer 29 = .ok (.iastore, 1) := by decide +kernel
theorem dX5_offer_30 : decode cX5_offer 30 = .ok (.return_, 1) := by decide +kernel
theorem dX5_offerRuns_0 : decode cX5_offerRuns 0 = .ok (.iload_n 2, 1) := by decide +kernel
theorem dX5_offerRuns_1 : decode cX5_offerRuns 1 = .ok (.ifCond .lt 25, 3) := by decide +kernel
theorem dX5_offerRuns_4 : decode cX5_offerRuns 4 = .ok (.iload_n 2, 1) := by decide +kernel
theorem dX5_offerRuns_5 : decode cX5_offerRuns 5 = .ok (.aload_n 0, 1) := by decide +kernel
theorem dX5_offerRuns_6 : decode cX5_offerRuns 6 = .ok (.getfield 17, 3) := by decide +kernel
theorem dX5_offerRuns_9 : decode cX5_offerRuns 9 = .ok (.arraylength, 1) := by decide +kernel
theorem dX5_offerRuns_10 : decode cX5_offerRuns 10 = .ok (.if_icmp .ge 16, 3) := by decide +kernel
theorem dX5_offerRuns_13 : decode cX5_offerRuns 13 = .ok (.aload_n 1, 1) := by decide +kernel
theorem dX5_offerRuns_14 : decode cX5_offerRuns 14 = .ok (.iload_n 2, 1) := by decide +kernel
theorem dX5_offerRuns_15 : decode cX5_offerRuns 15 = .ok (.iload_n 3, 1) := by decide +kernel
theorem dX5_offerRuns_16 : decode cX5_offerRuns 16 = .ok (.aload_n 0, 1) := by decide +kernel
theorem dX5_offerRuns_17 : decode cX5_offerRuns 17 = .ok (.getfield 11, 3) := by decide +kernel
theorem dX5_offerRuns_20 : decode cX5_offerRuns 20 = .ok (.invokevirtual 46, 3) := by decide +kernel
theorem dX5_offerRuns_23 : decode cX5_offerRuns 23 = .ok (.ifCond .ne 4, 3) := by decide +kernel
theorem dX5_offerRuns_26 : decode cX5_offerRuns 26 = .ok (.return_, 1) := by decide +kernel
theorem dX5_offerRuns_27 : decode cX5_offerRuns 27 = .ok (.aload_n 0, 1) := by decide +kernel
theorem dX5_offerRuns_28 : decode cX5_offerRuns 28 = .ok (.getfield 17, 3) := by decide +kernel
theorem dX5_offerRuns_31 : decode cX5_offerRuns 31 = .ok (.iload_n 2, 1) := by decide +kernel
theorem dX5_offerRuns_32 : decode cX5_offerRuns 32 = .ok (.iaload, 1) := by decide +kernel
theorem dX5_offerRuns_33 : decode cX5_offerRuns 33 = .ok (.iload_n 3, 1) := by decide +kernel
theorem dX5_offerRuns_34 : decode cX5_offerRuns 34 = .ok (.invokestatic 50, 3) := by decide +kernel
theorem dX5_offerRuns_37 : decode cX5_offerRuns 37 = .ok (.iadd, 1) := by decide +kernel
theorem dX5_offerRuns_38 : decode cX5_offerRuns 38 = .ok (.istore 5, 2) := by decide +kernel
theorem dX5_offerRuns_40 : decode cX5_offerRuns 40 = .ok (.iload_n 2, 1) := by decide +kernel
theorem dX5_offerRuns_41 : decode cX5_offerRuns 41 = .ok (.istore 6, 2) := by decide +kernel
theorem dX5_offerRuns_43 : decode cX5_offerRuns 43 = .ok (.iload 6, 2) := by decide +kernel
theorem dX5_offerRuns_45 : decode cX5_offerRuns 45 = .ok (.aload_n 1, 1) := by decide +kernel
theorem dX5_offerRuns_46 : decode cX5_offerRuns 46 = .ok (.getfield 27, 3) := by decide +kernel
theorem dX5_offerRuns_49 : decode cX5_offerRuns 49 = .ok (.if_icmp .ge 76, 3) := by decide +kernel
theorem dX5_offerRuns_52 : decode cX5_offerRuns 52 = .ok (.aload_n 1, 1) := by decide +kernel
theorem dX5_offerRuns_53 : decode cX5_offerRuns 53 = .ok (.iload 6, 2) := by decide +kernel
theorem dX5_offerRuns_55 : decode cX5_offerRuns 55 = .ok (.invokevirtual 33, 3) := by decide +kernel
theorem dX5_offerRuns_58 : decode cX5_offerRuns 58 = .ok (.istore 7, 2) := by decide +kernel
theorem dX5_offerRuns_60 : decode cX5_offerRuns 60 = .ok (.iload 7, 2) := by decide +kernel
theorem dX5_offerRuns_62 : decode cX5_offerRuns 62 = .ok (.ldc 37, 2) := by decide +kernel
theorem dX5_offerRuns_64 : decode cX5_offerRuns 64 = .ok (.if_icmp .eq 27, 3) := by decide +kernel
theorem dX5_offerRuns_67 : decode cX5_offerRuns 67 = .ok (.aload_n 0, 1) := by decide +kernel
theorem dX5_offerRuns_68 : decode cX5_offerRuns 68 = .ok (.getfield 11, 3) := by decide +kernel
theorem dX5_offerRuns_71 : decode cX5_offerRuns 71 = .ok (.iconst 0, 1) := by decide +kernel
theorem dX5_offerRuns_72 : decode cX5_offerRuns 72 = .ok (.laload, 1) := by decide +kernel
theorem dX5_offerRuns_73 : decode cX5_offerRuns 73 = .ok (.invokestatic 53, 3) := by decide +kernel
theorem dX5_offerRuns_76 : decode cX5_offerRuns 76 = .ok (.i2l, 1) := by decide +kernel
theorem dX5_offerRuns_77 : decode cX5_offerRuns 77 = .ok (.iload 7, 2) := by decide +kernel
theorem dX5_offerRuns_79 : decode cX5_offerRuns 79 = .ok (.i2l, 1) := by decide +kernel
theorem dX5_offerRuns_80 : decode cX5_offerRuns 80 = .ok (.lsub, 1) := by decide +kernel
theorem dX5_offerRuns_81 : decode cX5_offerRuns 81 = .ok (.invokestatic 57, 3) := by decide +kernel
theorem dX5_offerRuns_84 : decode cX5_offerRuns 84 = .ok (.iload 4, 2) := by decide +kernel
theorem dX5_offerRuns_86 : decode cX5_offerRuns 86 = .ok (.i2l, 1) := by decide +kernel
theorem dX5_offerRuns_87 : decode cX5_offerRuns 87 = .ok (.lcmp, 1) := by decide +kernel
theorem dX5_offerRuns_88 : decode cX5_offerRuns 88 = .ok (.ifCond .le 4, 3) := by decide +kernel
theorem dX5_offerRuns_91 : decode cX5_offerRuns 91 = .ok (.return_, 1) := by decide +kernel
theorem dX5_offerRuns_92 : decode cX5_offerRuns 92 = .ok (.iload 6, 2) := by decide +kernel
theorem dX5_offerRuns_94 : decode cX5_offerRuns 94 = .ok (.iload_n 2, 1) := by decide +kernel
theorem dX5_offerRuns_95 : decode cX5_offerRuns 95 = .ok (.iload_n 3, 1) := by decide +kernel
theorem dX5_offerRuns_96 : decode cX5_offerRuns 96 = .ok (.iadd, 1) := by decide +kernel
theorem dX5_offerRuns_97 : decode cX5_offerRuns 97 = .ok (.if_icmp .lt 18, 3) := by decide +kernel
theorem dX5_offerRuns_100 : decode cX5_offerRuns 100 = .ok (.aload_n 0, 1) := by decide +kernel
theorem dX5_offerRuns_101 : decode cX5_offerRuns 101 = .ok (.iload 6, 2) := by decide +kernel
theorem dX5_offerRuns_103 : decode cX5_offerRuns 103 = .ok (.iconst 1, 1) := by decide +kernel
theorem dX5_offerRuns_104 : decode cX5_offerRuns 104 = .ok (.iadd, 1) := by decide +kernel
theorem dX5_offerRuns_105 : decode cX5_offerRuns 105 = .ok (.iload 5, 2) := by decide +kernel
theorem dX5_offerRuns_107 : decode cX5_offerRuns 107 = .ok (.iload 6, 2) := by decide +kernel
theorem dX5_offerRuns_109 : decode cX5_offerRuns 109 = .ok (.iadd, 1) := by decide +kernel
theorem dX5_offerRuns_110 : decode cX5_offerRuns 110 = .ok (.iload_n 2, 1) := by decide +kernel
theorem dX5_offerRuns_111 : decode cX5_offerRuns 111 = .ok (.isub, 1) := by decide +kernel
theorem dX5_offerRuns_112 : decode cX5_offerRuns 112 = .ok (.invokevirtual 38, 3) := by decide +kernel
theorem dX5_offerRuns_115 : decode cX5_offerRuns 115 = .ok (.aload_n 0, 1) := by decide +kernel
theorem dX5_offerRuns_116 : decode cX5_offerRuns 116 = .ok (.invokevirtual 63, 3) := by decide +kernel
theorem dX5_offerRuns_119 : decode cX5_offerRuns 119 = .ok (.iinc 6 1, 3) := by decide +kernel
theorem dX5_offerRuns_122 : decode cX5_offerRuns 122 = .ok (.goto (-79), 3) := by decide +kernel
theorem dX5_offerRuns_125 : decode cX5_offerRuns 125 = .ok (.return_, 1) := by decide +kernel
theorem dX5_addColumns_0 : decode cX5_addColumns 0 = .ok (.iconst 0, 1) := by decide +kernel
theorem dX5_addColumns_1 : decode cX5_addColumns 1 = .ok (.istore_n 1, 1) := by decide +kernel
theorem dX5_addColumns_2 : decode cX5_addColumns 2 = .ok (.iload_n 1, 1) := by decide +kernel
theorem dX5_addColumns_3 : decode cX5_addColumns 3 = .ok (.aload_n 0, 1) := by decide +kernel
theorem dX5_addColumns_4 : decode cX5_addColumns 4 = .ok (.getfield 11, 3) := by decide +kernel
theorem dX5_addColumns_7 : decode cX5_addColumns 7 = .ok (.arraylength, 1) := by decide +kernel
theorem dX5_addColumns_8 : decode cX5_addColumns 8 = .ok (.iconst 1, 1) := by decide +kernel
theorem dX5_addColumns_9 : decode cX5_addColumns 9 = .ok (.isub, 1) := by decide +kernel
theorem dX5_addColumns_10 : decode cX5_addColumns 10 = .ok (.if_icmp .ge 34, 3) := by decide +kernel
theorem dX5_addColumns_13 : decode cX5_addColumns 13 = .ok (.aload_n 0, 1) := by decide +kernel
theorem dX5_addColumns_14 : decode cX5_addColumns 14 = .ok (.getfield 11, 3) := by decide +kernel
theorem dX5_addColumns_17 : decode cX5_addColumns 17 = .ok (.iload_n 1, 1) := by decide +kernel
theorem dX5_addColumns_18 : decode cX5_addColumns 18 = .ok (.aload_n 0, 1) := by decide +kernel
theorem dX5_addColumns_19 : decode cX5_addColumns 19 = .ok (.getfield 11, 3) := by decide +kernel
theorem dX5_addColumns_22 : decode cX5_addColumns 22 = .ok (.iload_n 1, 1) := by decide +kernel
theorem dX5_addColumns_23 : decode cX5_addColumns 23 = .ok (.laload, 1) := by decide +kernel
theorem dX5_addColumns_24 : decode cX5_addColumns 24 = .ok (.aload_n 0, 1) := by decide +kernel
theorem dX5_addColumns_25 : decode cX5_addColumns 25 = .ok (.getfield 11, 3) := by decide +kernel
theorem dX5_addColumns_28 : decode cX5_addColumns 28 = .ok (.iload_n 1, 1) := by decide +kernel
theorem dX5_addColumns_29 : decode cX5_addColumns 29 = .ok (.iconst 1, 1) := by decide +kernel
theorem dX5_addColumns_30 : decode cX5_addColumns 30 = .ok (.iadd, 1) := by decide +kernel
theorem dX5_addColumns_31 : decode cX5_addColumns 31 = .ok (.laload, 1) := by decide +kernel
theorem dX5_addColumns_32 : decode cX5_addColumns 32 = .ok (.ladd, 1) := by decide +kernel
theorem dX5_addColumns_33 : decode cX5_addColumns 33 = .ok (.ldc2_w 66, 3) := by decide +kernel
theorem dX5_addColumns_36 : decode cX5_addColumns 36 = .ok (.lrem, 1) := by decide +kernel
theorem dX5_addColumns_37 : decode cX5_addColumns 37 = .ok (.lastore, 1) := by decide +kernel
theorem dX5_addColumns_38 : decode cX5_addColumns 38 = .ok (.iinc 1 1, 3) := by decide +kernel
theorem dX5_addColumns_41 : decode cX5_addColumns 41 = .ok (.goto (-39), 3) := by decide +kernel
theorem dX5_addColumns_44 : decode cX5_addColumns 44 = .ok (.return_, 1) := by decide +kernel
theorem dX6_init_0 : decode cX6_init 0 = .ok (.aload_n 0, 1) := by decide +kernel
theorem dX6_init_1 : decode cX6_init 1 = .ok (.invokespecial 3, 3) := by decide +kernel
theorem dX6_init_4 : decode cX6_init 4 = .ok (.aload_n 0, 1) := by decide +kernel
theorem dX6_init_5 : decode cX6_init 5 = .ok (.bipush 20, 2) := by decide +kernel
theorem dX6_init_7 : decode cX6_init 7 = .ok (.newarray .int, 2) := by decide +kernel
theorem dX6_init_9 : decode cX6_init 9 = .ok (.putfield 11, 3) := by decide +kernel
theorem dX6_init_12 : decode cX6_init 12 = .ok (.aload_n 0, 1) := by decide +kernel
theorem dX6_init_13 : decode cX6_init 13 = .ok (.bipush 20, 2) := by decide +kernel
theorem dX6_init_15 : decode cX6_init 15 = .ok (.newarray .int, 2) := by decide +kernel
theorem dX6_init_17 : decode cX6_init 17 = .ok (.putfield 15, 3) := by decide +kernel
theorem dX6_init_20 : decode cX6_init 20 = .ok (.aload_n 0, 1) := by decide +kernel
theorem dX6_init_21 : decode cX6_init 21 = .ok (.iconst 4, 1) := by decide +kernel
theorem dX6_init_22 : decode cX6_init 22 = .ok (.newarray .int, 2) := by decide +kernel
theorem dX6_init_24 : decode cX6_init 24 = .ok (.putfield 18, 3) := by decide +kernel
theorem dX6_init_27 : decode cX6_init 27 = .ok (.aload_n 0, 1) := by decide +kernel
theorem dX6_init_28 : decode cX6_init 28 = .ok (.iconst 4, 1) := by decide +kernel
theorem dX6_init_29 : decode cX6_init 29 = .ok (.newarray .int, 2) := by decide +kernel
theorem dX6_init_31 : decode cX6_init 31 = .ok (.putfield 21, 3) := by decide +kernel
theorem dX6_init_34 : decode cX6_init 34 = .ok (.aload_n 0, 1) := by decide +kernel
theorem dX6_init_35 : decode cX6_init 35 = .ok (.iconst 4, 1) := by decide +kernel
theorem dX6_init_36 : decode cX6_init 36 = .ok (.newarray .long, 2) := by decide +kernel
theorem dX6_init_38 : decode cX6_init 38 = .ok (.putfield 24, 3) := by decide +kernel
theorem dX6_init_41 : decode cX6_init 41 = .ok (.return_, 1) := by decide +kernel
theorem dX6_tell_0 : decode cX6_tell 0 = .ok (.aload_n 0, 1) := by decide +kernel
theorem dX6_tell_1 : decode cX6_tell 1 = .ok (.getfield 28, 3) := by decide +kernel
theorem dX6_tell_4 : decode cX6_tell 4 = .ok (.bipush 20, 2) := by decide +kernel
theorem dX6_tell_6 : decode cX6_tell 6 = .ok (.if_icmp .ge 10, 3) := by decide +kernel
theorem dX6_tell_9 : decode cX6_tell 9 = .ok (.iload_n 1, 1) := by decide +kernel
theorem dX6_tell_10 : decode cX6_tell 10 = .ok (.invokestatic 32, 3) := by decide +kernel
theorem dX6_tell_13 : decode cX6_tell 13 = .ok (.ifCond .ne 5, 3) := by decide +kernel
theorem dX6_tell_16 : decode cX6_tell 16 = .ok (.iconst 0, 1) := by decide +kernel
theorem dX6_tell_17 : decode cX6_tell 17 = .ok (.ireturn, 1) := by decide +kernel
theorem dX6_tell_18 : decode cX6_tell 18 = .ok (.aload_n 0, 1) := by decide +kernel
theorem dX6_tell_19 : decode cX6_tell 19 = .ok (.getfield 11, 3) := by decide +kernel
theorem dX6_tell_22 : decode cX6_tell 22 = .ok (.aload_n 0, 1) := by decide +kernel
theorem dX6_tell_23 : decode cX6_tell 23 = .ok (.getfield 28, 3) := by decide +kernel
theorem dX6_tell_26 : decode cX6_tell 26 = .ok (.iload_n 1, 1) := by decide +kernel
theorem dX6_tell_27 : decode cX6_tell 27 = .ok (.iastore, 1) := by decide +kernel
theorem dX6_tell_28 : decode cX6_tell 28 = .ok (.aload_n 0, 1) := by decide +kernel
theorem dX6_tell_29 : decode cX6_tell 29 = .ok (.dup, 1) := by decide +kernel
theorem dX6_tell_30 : decode cX6_tell 30 = .ok (.getfield 28, 3) := by decide +kernel
theorem dX6_tell_33 : decode cX6_tell 33 = .ok (.iconst 1, 1) := by decide +kernel
theorem dX6_tell_34 : decode cX6_tell 34 = .ok (.iadd, 1) := by decide +kernel
theorem dX6_tell_35 : decode cX6_tell 35 = .ok (.putfield 28, 3) := by decide +kernel
theorem dX6_tell_38 : decode cX6_tell 38 = .ok (.iconst 1, 1) := by decide +kernel
theorem dX6_tell_39 : decode cX6_tell 39 = .ok (.ireturn, 1) := by decide +kernel
theorem dX6_isRowNumber_0 : decode cX6_isRowNumber 0 = .ok (.iload_n 0, 1) := by decide +kernel
theorem dX6_isRowNumber_1 : decode cX6_isRowNumber 1 = .ok (.ldc 36, 2) := by decide +kernel
theorem dX6_isRowNumber_3 : decode cX6_isRowNumber 3 = .ok (.if_icmp .lt 13, 3) := by decide +kernel
theorem dX6_isRowNumber_6 : decode cX6_isRowNumber 6 = .ok (.iload_n 0, 1) := by decide +kernel
theorem dX6_isRowNumber_7 : decode cX6_isRowNumber 7 = .ok (.ldc 37, 2) := by decide +kernel
theorem dX6_isRowNumber_9 : decode cX6_isRowNumber 9 = .ok (.if_icmp .gt 7, 3) := by decide +kernel
theorem dX6_isRowNumber_12 : decode cX6_isRowNumber 12 = .ok (.iconst 1, 1) := by decide +kernel
theorem dX6_isRowNumber_13 : decode cX6_isRowNumber 13 = .ok (.goto 4, 3) := by decide +kernel
theorem dX6_isRowNumber_16 : decode cX6_isRowNumber 16 = .ok (.iconst 0, 1) := by decide +kernel
theorem dX6_isRowNumber_17 : decode cX6_isRowNumber 17 = .ok (.ireturn, 1) := by decide +kernel
theorem dX6_layFigures_0 : decode cX6_layFigures 0 = .ok (.aload_n 0, 1) := by decide +kernel
theorem dX6_layFigures_1 : decode cX6_layFigures 1 = .ok (.iconst 0, 1) := by decide +kernel
theorem dX6_layFigures_2 : decode cX6_layFigures 2 = .ok (.iload_n 3, 1) := by decide +kernel
theorem dX6_layFigures_3 : decode cX6_layFigures 3 = .ok (.bipush 20, 2) := by decide +kernel
theorem dX6_layFigures_5 : decode cX6_layFigures 5 = .ok (.invokestatic 38, 3) := by decide +kernel
theorem dX6_layFigures_8 : decode cX6_layFigures 8 = .ok (.invokestatic 44, 3) := by decide +kernel
theorem dX6_layFigures_11 : decode cX6_layFigures 11 = .ok (.putfield 28, 3) := by decide +kernel
theorem dX6_layFigures_14 : decode cX6_layFigures 14 = .ok (.iconst 0, 1) := by decide +kernel
theorem dX6_layFigures_15 : decode cX6_layFigures 15 = .ok (.istore 4, 2) := by decide +kernel
theorem dX6_layFigures_17 : decode cX6_layFigures 17 = .ok (.iconst 0, 1) := by decide +kernel
theorem dX6_layFigures_18 : decode cX6_layFigures 18 = .ok (.istore 5, 2) := by decide +kernel
theorem dX6_layFigures_20 : decode cX6_layFigures 20 = .ok (.iload 5, 2) := by decide +kernel
theorem dX6_layFigures_22 : decode cX6_layFigures 22 = .ok (.aload_n 0, 1) := by decide +kernel
theorem dX6_layFigures_23 : decode cX6_layFigures 23 = .ok (.getfield 28, 3) := by decide +kernel
theorem dX6_layFigures_26 : decode cX6_layFigures 26 = .ok (.if_icmp .ge 63, 3) := by decide +kernel
theorem dX6_layFigures_29 : decode cX6_layFigures 29 = .ok (.aload_n 1, 1) := by decide +kernel
theorem dX6_layFigures_30 : decode cX6_layFigures 30 = .ok (.iload_n 2, 1) := by decide +kernel
theorem dX6_layFigures_31 : decode cX6_layFigures 31 = .ok (.iload 5, 2) := by decide +kernel
theorem dX6_layFigures_33 : decode cX6_layFigures 33 = .ok (.iadd, 1) := by decide +kernel
theorem dX6_layFigures_34 : decode cX6_layFigures 34 = .ok (.invokevirtual 47, 3) := by decide +kernel
theorem dX6_layFigures_37 : decode cX6_layFigures 37 = .ok (.istore 6, 2) := by decide +kernel
theorem dX6_layFigures_39 : decode cX6_layFigures 39 = .ok (.aload_n 0, 1) := by decide +kernel
theorem dX6_layFigures_40 : decode cX6_layFigures 40 = .ok (.getfield 11, 3) := by decide +kernel
theorem dX6_layFigures_43 : decode cX6_layFigures 43 = .ok (.iload 5, 2) := by decide +kernel
theorem dX6_layFigures_45 : decode cX6_layFigures 45 = .ok (.iload 6, 2) := by decide +kernel
theorem dX6_layFigures_47 : decode cX6_layFigures 47 = .ok (.invokestatic 32, 3) := by decide +kernel
theorem dX6_layFigures_50 : decode cX6_layFigures 50 = .ok (.ifCond .eq 8, 3) := by decide +kernel
theorem dX6_layFigures_53 : decode cX6_layFigures 53 = .ok (.iload 6, 2) := by decide +kernel
theorem dX6_layFigures_55 : decode cX6_layFigures 55 = .ok (.goto 5, 3) := by decide +kernel
theorem dX6_layFigures_58 : decode cX6_layFigures 58 = .ok (.ldc 53, 2) := by decide +kernel
theorem dX6_layFigures_60 : decode cX6_layFigures 60 = .ok (.iastore, 1) := by decide +kernel
theorem dX6_layFigures_61 : decode cX6_layFigures 61 = .ok (.iload 4, 2) := by decide +kernel
theorem dX6_layFigures_63 : decode cX6_layFigures 63 = .ok (.aload_n 0, 1) := by decide +kernel
theorem dX6_layFigures_64 : decode cX6_layFigures 64 = .ok (.getfield 11, 3) := by decide +kernel
theorem dX6_layFigures_67 : decode cX6_layFigures 67 = .ok (.iload 5, 2) := by decide +kernel
theorem dX6_layFigures_69 : decode cX6_layFigures 69 = .ok (.iaload, 1) := by decide +kernel
theorem dX6_layFigures_70 : decode cX6_layFigures 70 = .ok (.ldc 53, 2) := by decide +kernel
theorem dX6_layFigures_72 : decode cX6_layFigures 72 = .ok (.if_icmp .ne 7, 3) := by decide +kernel
theorem dX6_layFigures_75 : decode cX6_layFigures 75 = .ok (.iconst 0, 1) := by decide +kernel
theorem dX6_layFigures_76 : decode cX6_layFigures 76 = .ok (.goto 4, 3) := by decide +kernel
theorem dX6_layFigures_79 : decode cX6_layFigures 79 = .ok (.iconst 1, 1) := by decide +kernel
theorem dX6_layFigures_80 : decode cX6_layFigures 80 = .ok (.iadd, 1) := by decide +kernel
theorem dX6_layFigures_81 : decode cX6_layFigures 81 = .ok (.istore 4, 2) := by decide +kernel
theorem dX6_layFigures_83 : decode cX6_layFigures 83 = .ok (.iinc 5 1, 3) := by decide +kernel
theorem dX6_layFigures_86 : decode cX6_layFigures 86 = .ok (.goto (-66), 3) := by decide +kernel
theorem dX6_layFigures_89 : decode cX6_layFigures 89 = .ok (.iload 4, 2) := by decide +kernel
theorem dX6_layFigures_91 : decode cX6_layFigures 91 = .ok (.ireturn, 1) := by decide +kernel
theorem dX6_isThere_0 : decode cX6_isThere 0 = .ok (.iload_n 1, 1) := by decide +kernel
theorem dX6_isThere_1 : decode cX6_isThere 1 = .ok (.ifCond .lt 32, 3) := by decide +kernel
theorem dX6_isThere_4 : decode cX6_isThere 4 = .ok (.iload_n 1, 1) := by decide +kernel
theorem dX6_isThere_5 : decode cX6_isThere 5 = .ok (.aload_n 0, 1) := by decide +kernel
theorem dX6_isThere_6 : decode cX6_isThere 6 = .ok (.getfield 28, 3) := by decide +kernel
theorem dX6_isThere_9 : decode cX6_isThere 9 = .ok (.if_icmp .ge 24, 3) := by decide +kernel
theorem dX6_isThere_12 : decode cX6_isThere 12 = .ok (.iload_n 1, 1) := by decide +kernel
theorem dX6_isThere_13 : decode cX6_isThere 13 = .ok (.bipush 20, 2) := by decide +kernel
theorem dX6_isThere_15 : decode cX6_isThere 15 = .ok (.if_icmp .ge 18, 3) := by decide +kernel
theorem dX6_isThere_18 : decode cX6_isThere 18 = .ok (.aload_n 0, 1) := by decide +kernel
theorem dX6_isThere_19 : decode cX6_isThere 19 = .ok (.getfield 11, 3) := by decide +kernel
theorem dX6_isThere_22 : decode cX6_isThere 22 = .ok (.iload_n 1, 1) := by decide +kernel
theorem dX6_isThere_23 : decode cX6_isThere 23 = .ok (.iaload, 1) := by decide +kernel
theorem dX6_isThere_24 : decode cX6_isThere 24 = .ok (.ldc 53, 2) := by decide +kernel
theorem dX6_isThere_26 : decode cX6_isThere 26 = .ok (.if_icmp .eq 7, 3) := by decide +kernel
theorem dX6_isThere_29 : decode cX6_isThere 29 = .ok (.iconst 1, 1) := by decide +kernel
theorem dX6_isThere_30 : decode cX6_isThere 30 = .ok (.goto 4, 3) := by decide +kernel
theorem dX6_isThere_33 : decode cX6_isThere 33 = .ok (.iconst 0, 1) := by decide +kernel
theorem dX6_isThere_34 : decode cX6_isThere 34 = .ok (.ireturn, 1) := by decide +kernel
theorem dX6_areThere_0 : decode cX6_areThere 0 = .ok (.iload_n 1, 1) := by decide +kernel
theorem dX6_areThere_1 : decode cX6_areThere 1 = .ok (.istore_n 3, 1) := by decide +kernel
theorem dX6_areThere_2 : decode cX6_areThere 2 = .ok (.iload_n 3, 1) := by decide +kernel
theorem dX6_areThere_3 : decode cX6_areThere 3 = .ok (.iload_n 2, 1) := by decide +kernel
theorem dX6_areThere_4 : decode cX6_areThere 4 = .ok (.if_icmp .gt 19, 3) := by decide +kernel
theorem dX6_areThere_7 : decode cX6_areThere 7 = .ok (.aload_n 0, 1) := by decide +kernel
theorem dX6_areThere_8 : decode cX6_areThere 8 = .ok (.iload_n 3, 1) := by decide +kernel
theorem dX6_areThere_9 : decode cX6_areThere 9 = .ok (.invokevirtual 54, 3) := by decide +kernel
theorem dX6_areThere_12 : decode cX6_areThere 12 = .ok (.ifCond .ne 5, 3) := by decide +kernel
theorem dX6_areThere_15 : decode cX6_areThere 15 = .ok (.iconst 0, 1) := by decide +kernel
theorem dX6_areThere_16 : decode cX6_areThere 16 = .ok (.ireturn, 1) := by decide +kernel
theorem dX6_areThere_17 : decode cX6_areThere 17 = .ok (.iinc 3 1, 3) := by decide +kernel
theorem dX6_areThere_20 : decode cX6_areThere 20 = .ok (.goto (-18), 3) := by decide +kernel
theorem dX6_areThere_23 : decode cX6_areThere 23 = .ok (.iconst 1, 1) := by decide +kernel
theorem dX6_areThere_24 : decode cX6_areThere 24 = .ok (.ireturn, 1) := by decide +kernel
theorem dX6_search_0 : decode cX6_search 0 = .ok (.iload_n 1, 1) := by decide +kernel
theorem dX6_search_1 : decode cX6_search 1 = .ok (.ifCond .lt 18, 3) := by decide +kernel
theorem dX6_search_4 : decode cX6_search 4 = .ok (.iload_n 1, 1) := by decide +kernel
theorem dX6_search_5 : decode cX6_search 5 = .ok (.iconst 3, 1) := by decide +kernel
theorem dX6_search_6 : decode cX6_search 6 = .ok (.if_icmp .gt 13, 3) := by decide +kernel
theorem dX6_search_9 : decode cX6_search 9 = .ok (.iload_n 2, 1) := by decide +kernel
theorem dX6_search_10 : decode cX6_search 10 = .ok (.ifCond .lt 9, 3) := by decide +kernel
theorem dX6_search_13 : decode cX6_search 13 = .ok (.iload_n 2, 1) := by decide +kernel
theorem dX6_search_14 : decode cX6_search 14 = .ok (.bipush 9, 2) := by decide +kernel
theorem dX6_search_16 : decode cX6_search 16 = .ok (.if_icmp .le 5, 3) := by decide +kernel
theorem dX6_search_19 : decode cX6_search 19 = .ok (.iconst 0, 1) := by decide +kernel
theorem dX6_search_20 : decode cX6_search 20 = .ok (.ireturn, 1) := by decide +kernel
theorem dX6_search_21 : decode cX6_search 21 = .ok (.aload_n 0, 1) := by decide +kernel
theorem dX6_search_22 : decode cX6_search 22 = .ok (.invokevirtual 57, 3) := by decide +kernel
theorem dX6_search_25 : decode cX6_search 25 = .ok (.aload_n 0, 1) := by decide +kernel
theorem dX6_search_26 : decode cX6_search 26 = .ok (.getfield 60, 3) := by decide +kernel
theorem dX6_search_29 : decode cX6_search 29 = .ok (.iload_n 1, 1) := by decide +kernel
theorem dX6_search_30 : decode cX6_search 30 = .ok (.iconst 1, 1) := by decide +kernel
theorem dX6_search_31 : decode cX6_search 31 = .ok (.iadd, 1) := by decide +kernel
theorem dX6_search_32 : decode cX6_search 32 = .ok (.if_icmp .ge 5, 3) := by decide +kernel
theorem dX6_search_35 : decode cX6_search 35 = .ok (.iconst 0, 1) := by decide +kernel
theorem dX6_search_36 : decode cX6_search 36 = .ok (.ireturn, 1) := by decide +kernel
theorem dX6_search_37 : decode cX6_search 37 = .ok (.iload_n 3, 1) := by decide +kernel
theorem dX6_search_38 : decode cX6_search 38 = .ok (.ifCond .eq 7, 3) := by decide +kernel
theorem dX6_search_41 : decode cX6_search 41 = .ok (.aload_n 0, 1) := by decide +kernel
theorem dX6_search_42 : decode cX6_search 42 = .ok (.invokevirtual 63, 3) := by decide +kernel
theorem dX6_search_45 : decode cX6_search 45 = .ok (.aload_n 0, 1) := by decide +kernel
theorem dX6_search_46 : decode cX6_search 46 = .ok (.iload_n 1, 1) := by decide +kernel
theorem dX6_search_47 : decode cX6_search 47 = .ok (.iconst 1, 1) := by decide +kernel
theorem dX6_search_48 : decode cX6_search 48 = .ok (.iadd, 1) := by decide +kernel
theorem dX6_search_49 : decode cX6_search 49 = .ok (.invokevirtual 66, 3) := by decide +kernel
theorem dX6_search_52 : decode cX6_search 52 = .ok (.bipush 21, 2) := by decide +kernel
theorem dX6_search_54 : decode cX6_search 54 = .ok (.istore 4, 2) := by decide +kernel
theorem dX6_search_56 : decode cX6_search 56 = .ok (.iconst 1, 1) := by decide +kernel
theorem dX6_search_57 : decode cX6_search 57 = .ok (.istore 5, 2) := by decide +kernel
theorem dX6_search_59 : decode cX6_search 59 = .ok (.iconst 0, 1) := by decide +kernel
theorem dX6_search_60 : decode cX6_search 60 = .ok (.istore 6, 2) := by decide +kernel
theorem dX6_search_62 : decode cX6_search 62 = .ok (.iload 6, 2) := by decide +kernel
theorem dX6_search_64 : decode cX6_search 64 = .ok (.sipush 4845, 3) := by decide +kernel
theorem dX6_search_67 : decode cX6_search 67 = .ok (.if_icmp .ge 95, 3) := by decide +kernel
theorem dX6_search_70 : decode cX6_search 70 = .ok (.iload 5, 2) := by decide +kernel
theorem dX6_search_72 : decode cX6_search 72 = .ok (.ifCond .eq 90, 3) := by decide +kernel
theorem dX6_search_75 : decode cX6_search 75 = .ok (.aload_n 0, 1) := by decide +kernel
theorem dX6_search_76 : decode cX6_search 76 = .ok (.invokevirtual 70, 3) := by decide +kernel
theorem dX6_search_79 : decode cX6_search 79 = .ok (.aload_n 0, 1) := by decide +kernel
theorem dX6_search_80 : decode cX6_search 80 = .ok (.iload_n 2, 1) := by decide +kernel
theorem dX6_search_81 : decode cX6_search 81 = .ok (.iload 4, 2) := by decide +kernel
theorem dX6_search_83 : decode cX6_search 83 = .ok (.invokevirtual 73, 3) := by decide +kernel
theorem dX6_search_86 : decode cX6_search 86 = .ok (.istore 7, 2) := by decide +kernel
theorem dX6_search_88 : decode cX6_search 88 = .ok (.iload 7, 2) := by decide +kernel
theorem dX6_search_90 : decode cX6_search 90 = .ok (.iconst (-1), 1) := by decide +kernel
theorem dX6_search_91 : decode cX6_search 91 = .ok (.if_icmp .eq 59, 3) := by decide +kernel
theorem dX6_search_94 : decode cX6_search 94 = .ok (.iload 7, 2) := by decide +kernel
theorem dX6_search_96 : decode cX6_search 96 = .ok (.invokestatic 76, 3) := by decide +kernel
theorem dX6_search_99 : decode cX6_search 99 = .ok (.istore 8, 2) := by decide +kernel
theorem dX6_search_101 : decode cX6_search 101 = .ok (.iload 8, 2) := by decide +kernel
theorem dX6_search_103 : decode cX6_search 103 = .ok (.iload 4, 2) := by decide +kernel
theorem dX6_search_105 : decode cX6_search 105 = .ok (.if_icmp .ge 18, 3) := by decide +kernel
theorem dX6_search_108 : decode cX6_search 108 = .ok (.iload 8, 2) := by decide +kernel
theorem dX6_search_110 : decode cX6_search 110 = .ok (.istore 4, 2) := by decide +kernel
theorem dX6_search_112 : decode cX6_search 112 = .ok (.aload_n 0, 1) := by decide +kernel
theorem dX6_search_113 : decode cX6_search 113 = .ok (.iload 7, 2) := by decide +kernel
theorem dX6_search_115 : decode cX6_search 115 = .ok (.putfield 81, 3) := by decide +kernel
theorem dX6_search_118 : decode cX6_search 118 = .ok (.aload_n 0, 1) := by decide +kernel
theorem dX6_search_119 : decode cX6_search 119 = .ok (.iconst 0, 1) := by decide +kernel
theorem dX6_search_120 : decode cX6_search 120 = .ok (.putfield 84, 3) := by decide +kernel
theorem dX6_search_123 : decode cX6_search 123 = .ok (.aload_n 0, 1) := by decide +kernel
theorem dX6_search_124 : decode cX6_search 124 = .ok (.dup, 1) := by decide +kernel
theorem dX6_search_125 : decode cX6_search 125 = .ok (.getfield 84, 3) := by decide +kernel
theorem dX6_search_128 : decode cX6_search 128 = .ok (.iload_n 3, 1) := by decide +kernel
theorem dX6_search_129 : decode cX6_search 129 = .ok (.ifCond .eq 16, 3) := by decide +kernel
theorem dX6_search_132 : decode cX6_search 132 = .ok (.aload_n 0, 1) := by decide +kernel
theorem dX6_search_133 : decode cX6_search 133 = .ok (.iload 7, 2) := by decide +kernel
theorem dX6_search_135 : decode cX6_search 135 = .ok (.invokevirtual 87, 3) := by decide +kernel
theorem dX6_search_138 : decode cX6_search 138 = .ok (.ifCond .eq 7, 3) := by decide +kernel
theorem dX6_search_141 : decode cX6_search 141 = .ok (.iconst 1, 1) := by decide +kernel
theorem dX6_search_142 : decode cX6_search 142 = .ok (.goto 4, 3) := by decide +kernel
theorem dX6_search_145 : decode cX6_search 145 = .ok (.iconst 0, 1) := by decide +kernel
theorem dX6_search_146 : decode cX6_search 146 = .ok (.iadd, 1) := by decide +kernel
theorem dX6_search_147 : decode cX6_search 147 = .ok (.putfield 84, 3) := by decide +kernel
theorem dX6_search_150 : decode cX6_search 150 = .ok (.aload_n 0, 1) := by decide +kernel
theorem dX6_search_151 : decode cX6_search 151 = .ok (.invokevirtual 90, 3) := by decide +kernel
theorem dX6_search_154 : decode cX6_search 154 = .ok (.istore 5, 2) := by decide +kernel
theorem dX6_search_156 : decode cX6_search 156 = .ok (.iinc 6 1, 3) := by decide +kernel
theorem dX6_search_159 : decode cX6_search 159 = .ok (.goto (-97), 3) := by decide +kernel
theorem dX6_search_162 : decode cX6_search 162 = .ok (.iconst 1, 1) := by decide +kernel
theorem dX6_search_163 : decode cX6_search 163 = .ok (.ireturn, 1) := by decide +kernel
theorem dX6_findPlaces_0 : decode cX6_findPlaces 0 = .ok (.aload_n 0, 1) := by decide +kernel
theorem dX6_findPlaces_1 : decode cX6_findPlaces 1 = .ok (.iconst 0, 1) := by decide +kernel
theorem dX6_findPlaces_2 : decode cX6_findPlaces 2 = .ok (.putfield 60, 3) := by decide +kernel
theorem dX6_findPlaces_5 : decode cX6_findPlaces 5 = .ok (.iconst 0, 1) := by decide +kernel
theorem dX6_findPlaces_6 : decode cX6_findPlaces 6 = .ok (.istore_n 1, 1) := by decide +kernel
theorem dX6_findPlaces_7 : decode cX6_findPlaces 7 = .ok (.iload_n 1, 1) := by decide +kernel
theorem dX6_findPlaces_8 : decode cX6_findPlaces 8 = .ok (.aload_n 0, 1) := by decide +kernel
theorem dX6_findPlaces_9 : decode cX6_findPlaces 9 = .ok (.getfield 28, 3) := by decide +kernel
theorem dX6_findPlaces_12 : decode cX6_findPlaces 12 = .ok (.if_icmp .ge 58, 3) := by decide +kernel
theorem dX6_findPlaces_15 : decode cX6_findPlaces 15 = .ok (.iload_n 1, 1) := by decide +kernel
theorem dX6_findPlaces_16 : decode cX6_findPlaces 16 = .ok (.bipush 20, 2) := by decide +kernel
theorem dX6_findPlaces_18 : decode cX6_findPlaces 18 = .ok (.if_icmp .ge 52, 3) := by decide +kernel
theorem dX6_findPlaces_21 : decode cX6_findPlaces 21 = .ok (.aload_n 0, 1) := by decide +kernel
theorem dX6_findPlaces_22 : decode cX6_findPlaces 22 = .ok (.getfield 11, 3) := by decide +kernel
theorem dX6_findPlaces_25 : decode cX6_findPlaces 25 = .ok (.iload_n 1, 1) := by decide +kernel
theorem dX6_findPlaces_26 : decode cX6_findPlaces 26 = .ok (.iaload, 1) := by decide +kernel
theorem dX6_findPlaces_27 : decode cX6_findPlaces 27 = .ok (.ldc 53, 2) := by decide +kernel
theorem dX6_findPlaces_29 : decode cX6_findPlaces 29 = .ok (.if_icmp .eq 35, 3) := by decide +kernel
theorem dX6_findPlaces_32 : decode cX6_findPlaces 32 = .ok (.aload_n 0, 1) := by decide +kernel
theorem dX6_findPlaces_33 : decode cX6_findPlaces 33 = .ok (.getfield 60, 3) := by decide +kernel
theorem dX6_findPlaces_36 : decode cX6_findPlaces 36 = .ok (.aload_n 0, 1) := by decide +kernel
theorem dX6_findPlaces_37 : decode cX6_findPlaces 37 = .ok (.getfield 15, 3) := by decide +kernel
theorem dX6_findPlaces_40 : decode cX6_findPlaces 40 = .ok (.arraylength, 1) := by decide +kernel
theorem dX6_findPlaces_41 : decode cX6_findPlaces 41 = .ok (.if_icmp .ge 23, 3) := by decide +kernel
theorem dX6_findPlaces_44 : decode cX6_findPlaces 44 = .ok (.aload_n 0, 1) := by decide +kernel
theorem dX6_findPlaces_45 : decode cX6_findPlaces 45 = .ok (.getfield 15, 3) := by decide +kernel
theorem dX6_findPlaces_48 : decode cX6_findPlaces 48 = .ok (.aload_n 0, 1) := by decide +kernel
theorem dX6_findPlaces_49 : decode cX6_findPlaces 49 = .ok (.getfield 60, 3) := by decide +kernel
theorem dX6_findPlaces_52 : decode cX6_findPlaces 52 = .ok (.iload_n 1, 1) := by decide +kernel
theorem dX6_findPlaces_53 : decode cX6_findPlaces 53 = .ok (.iastore, 1) := by decide +kernel
theorem dX6_findPlaces_54 : decode cX6_findPlaces 54 = .ok (.aload_n 0, 1) := by decide +kernel
theorem dX6_findPlaces_55 : decode cX6_findPlaces 55 = .ok (.dup, 1) := by decide +kernel
theorem dX6_findPlaces_56 : decode cX6_findPlaces 56 = .ok (.getfield 60, 3) := by decide +kernel
theorem dX6_findPlaces_59 : decode cX6_findPlaces 59 = .ok (.iconst 1, 1) := by decide +kernel
theorem dX6_findPlaces_60 : decode cX6_findPlaces 60 = .ok (.iadd, 1) := by decide +kernel
theorem dX6_findPlaces_61 : decode cX6_findPlaces 61 = .ok (.putfield 60, 3) := by decide +kernel
theorem dX6_findPlaces_64 : decode cX6_findPlaces 64 = .ok (.iinc 1 1, 3) := by decide +kernel
theorem dX6_findPlaces_67 : decode cX6_findPlaces 67 = .ok (.goto (-60), 3) := by decide +kernel
theorem dX6_findPlaces_70 : decode cX6_findPlaces 70 = .ok (.return_, 1) := by decide +kernel
theorem dX6_freeSlots_0 : decode cX6_freeSlots 0 = .ok (.aload_n 0, 1) := by decide +kernel
theorem dX6_freeSlots_1 : decode cX6_freeSlots 1 = .ok (.getfield 94, 3) := by decide +kernel
theorem dX6_freeSlots_4 : decode cX6_freeSlots 4 = .ok (.ifnonnull 15, 3) := by decide +kernel
theorem dX6_freeSlots_7 : decode cX6_freeSlots 7 = .ok (.aload_n 0, 1) := by decide +kernel
theorem dX6_freeSlots_8 : decode cX6_freeSlots 8 = .ok (.sipush 8192, 3) := by decide +kernel
theorem dX6_freeSlots_11 : decode cX6_freeSlots 11 = .ok (.newarray .int, 2) := by decide +kernel
theorem dX6_freeSlots_13 : decode cX6_freeSlots 13 = .ok (.putfield 94, 3) := by decide +kernel
