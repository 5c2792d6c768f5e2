theorem dX11_stick_1 : decode cX11_stick 1 = .ok (.ifCond .lt 53, 3) := by decide +kernel
theorem dX11_stick_4 : decode cX11_stick 4 = .ok (.iload_n 1, 1) := by decide +kernel
theorem dX11_stick_5 : decode cX11_stick 5 = .ok (.bipush 10, 2) := by decide +kernel
theorem dX11_stick_7 : decode cX11_stick 7 = .ok (.idiv, 1) := by decide +kernel
theorem dX11_stick_8 : decode cX11_stick 8 = .ok (.iconst 5, 1) := by decide +kernel
theorem dX11_stick_9 : decode cX11_stick 9 = .ok (.if_icmp .ge 45, 3) := by decide +kernel
theorem dX11_stick_12 : decode cX11_stick 12 = .ok (.iload_n 1, 1) := by decide +kernel
theorem dX11_stick_13 : decode cX11_stick 13 = .ok (.bipush 10, 2) := by decide +kernel
theorem dX11_stick_15 : decode cX11_stick 15 = .ok (.irem, 1) := by decide +kernel
theorem dX11_stick_16 : decode cX11_stick 16 = .ok (.bipush 9, 2) := by decide +kernel
theorem dX11_stick_18 : decode cX11_stick 18 = .ok (.if_icmp .ge 36, 3) := by decide +kernel
theorem dX11_stick_21 : decode cX11_stick 21 = .ok (.iload_n 2, 1) := by decide +kernel
theorem dX11_stick_22 : decode cX11_stick 22 = .ok (.i2l, 1) := by decide +kernel
theorem dX11_stick_23 : decode cX11_stick 23 = .ok (.lconst 0, 1) := by decide +kernel
theorem dX11_stick_24 : decode cX11_stick 24 = .ok (.ldc2_w 356, 3) := by decide +kernel
theorem dX11_stick_27 : decode cX11_stick 27 = .ok (.invokestatic 143, 3) := by decide +kernel
theorem dX11_stick_30 : decode cX11_stick 30 = .ok (.ifCond .eq 24, 3) := by decide +kernel
theorem dX11_stick_33 : decode cX11_stick 33 = .ok (.iload_n 3, 1) := by decide +kernel
theorem dX11_stick_34 : decode cX11_stick 34 = .ok (.i2l, 1) := by decide +kernel
theorem dX11_stick_35 : decode cX11_stick 35 = .ok (.lconst 1, 1) := by decide +kernel
theorem dX11_stick_36 : decode cX11_stick 36 = .ok (.ldc2_w 356, 3) := by decide +kernel
theorem dX11_stick_39 : decode cX11_stick 39 = .ok (.invokestatic 143, 3) := by decide +kernel
theorem dX11_stick_42 : decode cX11_stick 42 = .ok (.ifCond .eq 12, 3) := by decide +kernel
theorem dX11_stick_45 : decode cX11_stick 45 = .ok (.aload_n 0, 1) := by decide +kernel
theorem dX11_stick_46 : decode cX11_stick 46 = .ok (.getfield 353, 3) := by decide +kernel
theorem dX11_stick_49 : decode cX11_stick 49 = .ok (.bipush 12, 2) := by decide +kernel
theorem dX11_stick_51 : decode cX11_stick 51 = .ok (.if_icmp .ne 5, 3) := by decide +kernel
theorem dX11_stick_54 : decode cX11_stick 54 = .ok (.iconst 0, 1) := by decide +kernel
theorem dX11_stick_55 : decode cX11_stick 55 = .ok (.ireturn, 1) := by decide +kernel
theorem dX11_stick_56 : decode cX11_stick 56 = .ok (.aload_n 0, 1) := by decide +kernel
theorem dX11_stick_57 : decode cX11_stick 57 = .ok (.getfield 103, 3) := by decide +kernel
theorem dX11_stick_60 : decode cX11_stick 60 = .ok (.aload_n 0, 1) := by decide +kernel
theorem dX11_stick_61 : decode cX11_stick 61 = .ok (.getfield 353, 3) := by decide +kernel
theorem dX11_stick_64 : decode cX11_stick 64 = .ok (.bipush 9, 2) := by decide +kernel
theorem dX11_stick_66 : decode cX11_stick 66 = .ok (.iload_n 1, 1) := by decide +kernel
theorem dX11_stick_67 : decode cX11_stick 67 = .ok (.bipush 10, 2) := by decide +kernel
theorem dX11_stick_69 : decode cX11_stick 69 = .ok (.idiv, 1) := by decide +kernel
theorem dX11_stick_70 : decode cX11_stick 70 = .ok (.imul, 1) := by decide +kernel
theorem dX11_stick_71 : decode cX11_stick 71 = .ok (.iload_n 1, 1) := by decide +kernel
theorem dX11_stick_72 : decode cX11_stick 72 = .ok (.bipush 10, 2) := by decide +kernel
theorem dX11_stick_74 : decode cX11_stick 74 = .ok (.irem, 1) := by decide +kernel
theorem dX11_stick_75 : decode cX11_stick 75 = .ok (.iadd, 1) := by decide +kernel
theorem dX11_stick_76 : decode cX11_stick 76 = .ok (.iastore, 1) := by decide +kernel
theorem dX11_stick_77 : decode cX11_stick 77 = .ok (.aload_n 0, 1) := by decide +kernel
theorem dX11_stick_78 : decode cX11_stick 78 = .ok (.getfield 106, 3) := by decide +kernel
theorem dX11_stick_81 : decode cX11_stick 81 = .ok (.aload_n 0, 1) := by decide +kernel
theorem dX11_stick_82 : decode cX11_stick 82 = .ok (.getfield 353, 3) := by decide +kernel
theorem dX11_stick_85 : decode cX11_stick 85 = .ok (.aload_n 0, 1) := by decide +kernel
theorem dX11_stick_86 : decode cX11_stick 86 = .ok (.getfield 350, 3) := by decide +kernel
theorem dX11_stick_89 : decode cX11_stick 89 = .ok (.iload_n 2, 1) := by decide +kernel
theorem dX11_stick_90 : decode cX11_stick 90 = .ok (.iadd, 1) := by decide +kernel
theorem dX11_stick_91 : decode cX11_stick 91 = .ok (.iastore, 1) := by decide +kernel
theorem dX11_stick_92 : decode cX11_stick 92 = .ok (.aload_n 0, 1) := by decide +kernel
theorem dX11_stick_93 : decode cX11_stick 93 = .ok (.getfield 109, 3) := by decide +kernel
theorem dX11_stick_96 : decode cX11_stick 96 = .ok (.aload_n 0, 1) := by decide +kernel
theorem dX11_stick_97 : decode cX11_stick 97 = .ok (.getfield 353, 3) := by decide +kernel
theorem dX11_stick_100 : decode cX11_stick 100 = .ok (.aload_n 0, 1) := by decide +kernel
theorem dX11_stick_101 : decode cX11_stick 101 = .ok (.getfield 350, 3) := by decide +kernel
theorem dX11_stick_104 : decode cX11_stick 104 = .ok (.iload_n 2, 1) := by decide +kernel
theorem dX11_stick_105 : decode cX11_stick 105 = .ok (.iadd, 1) := by decide +kernel
theorem dX11_stick_106 : decode cX11_stick 106 = .ok (.iload_n 3, 1) := by decide +kernel
theorem dX11_stick_107 : decode cX11_stick 107 = .ok (.iadd, 1) := by decide +kernel
theorem dX11_stick_108 : decode cX11_stick 108 = .ok (.iconst 1, 1) := by decide +kernel
theorem dX11_stick_109 : decode cX11_stick 109 = .ok (.isub, 1) := by decide +kernel
theorem dX11_stick_110 : decode cX11_stick 110 = .ok (.iastore, 1) := by decide +kernel
theorem dX11_stick_111 : decode cX11_stick 111 = .ok (.aload_n 0, 1) := by decide +kernel
theorem dX11_stick_112 : decode cX11_stick 112 = .ok (.dup, 1) := by decide +kernel
theorem dX11_stick_113 : decode cX11_stick 113 = .ok (.getfield 353, 3) := by decide +kernel
theorem dX11_stick_116 : decode cX11_stick 116 = .ok (.iconst 1, 1) := by decide +kernel
theorem dX11_stick_117 : decode cX11_stick 117 = .ok (.iadd, 1) := by decide +kernel
theorem dX11_stick_118 : decode cX11_stick 118 = .ok (.putfield 353, 3) := by decide +kernel
theorem dX11_stick_121 : decode cX11_stick 121 = .ok (.iconst 1, 1) := by decide +kernel
theorem dX11_stick_122 : decode cX11_stick 122 = .ok (.ireturn, 1) := by decide +kernel
theorem dX11_isStuck_0 : decode cX11_isStuck 0 = .ok (.iconst 0, 1) := by decide +kernel
theorem dX11_isStuck_1 : decode cX11_isStuck 1 = .ok (.istore_n 2, 1) := by decide +kernel
theorem dX11_isStuck_2 : decode cX11_isStuck 2 = .ok (.iload_n 2, 1) := by decide +kernel
theorem dX11_isStuck_3 : decode cX11_isStuck 3 = .ok (.aload_n 0, 1) := by decide +kernel
theorem dX11_isStuck_4 : decode cX11_isStuck 4 = .ok (.getfield 353, 3) := by decide +kernel
theorem dX11_isStuck_7 : decode cX11_isStuck 7 = .ok (.if_icmp .ge 46, 3) := by decide +kernel
theorem dX11_isStuck_10 : decode cX11_isStuck 10 = .ok (.aload_n 0, 1) := by decide +kernel
theorem dX11_isStuck_11 : decode cX11_isStuck 11 = .ok (.getfield 103, 3) := by decide +kernel
theorem dX11_isStuck_14 : decode cX11_isStuck 14 = .ok (.iload_n 2, 1) := by decide +kernel
theorem dX11_isStuck_15 : decode cX11_isStuck 15 = .ok (.iaload, 1) := by decide +kernel
theorem dX11_isStuck_16 : decode cX11_isStuck 16 = .ok (.iload_n 1, 1) := by decide +kernel
theorem dX11_isStuck_17 : decode cX11_isStuck 17 = .ok (.if_icmp .ne 30, 3) := by decide +kernel
theorem dX11_isStuck_20 : decode cX11_isStuck 20 = .ok (.aload_n 0, 1) := by decide +kernel
theorem dX11_isStuck_21 : decode cX11_isStuck 21 = .ok (.getfield 350, 3) := by decide +kernel
theorem dX11_isStuck_24 : decode cX11_isStuck 24 = .ok (.i2l, 1) := by decide +kernel
theorem dX11_isStuck_25 : decode cX11_isStuck 25 = .ok (.aload_n 0, 1) := by decide +kernel
theorem dX11_isStuck_26 : decode cX11_isStuck 26 = .ok (.getfield 106, 3) := by decide +kernel
theorem dX11_isStuck_29 : decode cX11_isStuck 29 = .ok (.iload_n 2, 1) := by decide +kernel
theorem dX11_isStuck_30 : decode cX11_isStuck 30 = .ok (.iaload, 1) := by decide +kernel
theorem dX11_isStuck_31 : decode cX11_isStuck 31 = .ok (.i2l, 1) := by decide +kernel
theorem dX11_isStuck_32 : decode cX11_isStuck 32 = .ok (.aload_n 0, 1) := by decide +kernel
theorem dX11_isStuck_33 : decode cX11_isStuck 33 = .ok (.getfield 109, 3) := by decide +kernel
theorem dX11_isStuck_36 : decode cX11_isStuck 36 = .ok (.iload_n 2, 1) := by decide +kernel
theorem dX11_isStuck_37 : decode cX11_isStuck 37 = .ok (.iaload, 1) := by decide +kernel
theorem dX11_isStuck_38 : decode cX11_isStuck 38 = .ok (.i2l, 1) := by decide +kernel
theorem dX11_isStuck_39 : decode cX11_isStuck 39 = .ok (.invokestatic 143, 3) := by decide +kernel
theorem dX11_isStuck_42 : decode cX11_isStuck 42 = .ok (.ifCond .eq 5, 3) := by decide +kernel
theorem dX11_isStuck_45 : decode cX11_isStuck 45 = .ok (.iconst 1, 1) := by decide +kernel
theorem dX11_isStuck_46 : decode cX11_isStuck 46 = .ok (.ireturn, 1) := by decide +kernel
theorem dX11_isStuck_47 : decode cX11_isStuck 47 = .ok (.iinc 2 1, 3) := by decide +kernel
theorem dX11_isStuck_50 : decode cX11_isStuck 50 = .ok (.goto (-48), 3) := by decide +kernel
theorem dX11_isStuck_53 : decode cX11_isStuck 53 = .ok (.iconst 0, 1) := by decide +kernel
theorem dX11_isStuck_54 : decode cX11_isStuck 54 = .ok (.ireturn, 1) := by decide +kernel
theorem dX11_turns_0 : decode cX11_turns 0 = .ok (.iconst 0, 1) := by decide +kernel
theorem dX11_turns_1 : decode cX11_turns 1 = .ok (.istore_n 1, 1) := by decide +kernel
theorem dX11_turns_2 : decode cX11_turns 2 = .ok (.iload_n 1, 1) := by decide +kernel
theorem dX11_turns_3 : decode cX11_turns 3 = .ok (.iconst 1, 1) := by decide +kernel
theorem dX11_turns_4 : decode cX11_turns 4 = .ok (.iadd, 1) := by decide +kernel
theorem dX11_turns_5 : decode cX11_turns 5 = .ok (.iconst 5, 1) := by decide +kernel
theorem dX11_turns_6 : decode cX11_turns 6 = .ok (.if_icmp .ge 97, 3) := by decide +kernel
theorem dX11_turns_9 : decode cX11_turns 9 = .ok (.iconst 0, 1) := by decide +kernel
theorem dX11_turns_10 : decode cX11_turns 10 = .ok (.istore_n 2, 1) := by decide +kernel
theorem dX11_turns_11 : decode cX11_turns 11 = .ok (.iconst 0, 1) := by decide +kernel
theorem dX11_turns_12 : decode cX11_turns 12 = .ok (.istore_n 3, 1) := by decide +kernel
theorem dX11_turns_13 : decode cX11_turns 13 = .ok (.iload_n 3, 1) := by decide +kernel
theorem dX11_turns_14 : decode cX11_turns 14 = .ok (.bipush 9, 2) := by decide +kernel
theorem dX11_turns_16 : decode cX11_turns 16 = .ok (.if_icmp .ge 71, 3) := by decide +kernel
theorem dX11_turns_19 : decode cX11_turns 19 = .ok (.bipush 9, 2) := by decide +kernel
theorem dX11_turns_21 : decode cX11_turns 21 = .ok (.iload_n 1, 1) := by decide +kernel
theorem dX11_turns_22 : decode cX11_turns 22 = .ok (.imul, 1) := by decide +kernel
theorem dX11_turns_23 : decode cX11_turns 23 = .ok (.iload_n 3, 1) := by decide +kernel
theorem dX11_turns_24 : decode cX11_turns 24 = .ok (.iadd, 1) := by decide +kernel
theorem dX11_turns_25 : decode cX11_turns 25 = .ok (.istore 4, 2) := by decide +kernel
theorem dX11_turns_27 : decode cX11_turns 27 = .ok (.aload_n 0, 1) := by decide +kernel
theorem dX11_turns_28 : decode cX11_turns 28 = .ok (.getfield 100, 3) := by decide +kernel
theorem dX11_turns_31 : decode cX11_turns 31 = .ok (.iload 4, 2) := by decide +kernel
theorem dX11_turns_33 : decode cX11_turns 33 = .ok (.iaload, 1) := by decide +kernel
theorem dX11_turns_34 : decode cX11_turns 34 = .ok (.aload_n 0, 1) := by decide +kernel
theorem dX11_turns_35 : decode cX11_turns 35 = .ok (.getfield 100, 3) := by decide +kernel
theorem dX11_turns_38 : decode cX11_turns 38 = .ok (.iload 4, 2) := by decide +kernel
theorem dX11_turns_40 : decode cX11_turns 40 = .ok (.bipush 9, 2) := by decide +kernel
theorem dX11_turns_42 : decode cX11_turns 42 = .ok (.iadd, 1) := by decide +kernel
theorem dX11_turns_43 : decode cX11_turns 43 = .ok (.iaload, 1) := by decide +kernel
theorem dX11_turns_44 : decode cX11_turns 44 = .ok (.iadd, 1) := by decide +kernel
theorem dX11_turns_45 : decode cX11_turns 45 = .ok (.iload_n 2, 1) := by decide +kernel
theorem dX11_turns_46 : decode cX11_turns 46 = .ok (.iadd, 1) := by decide +kernel
theorem dX11_turns_47 : decode cX11_turns 47 = .ok (.istore 5, 2) := by decide +kernel
theorem dX11_turns_49 : decode cX11_turns 49 = .ok (.aload_n 0, 1) := by decide +kernel
theorem dX11_turns_50 : decode cX11_turns 50 = .ok (.iload 4, 2) := by decide +kernel
theorem dX11_turns_52 : decode cX11_turns 52 = .ok (.invokevirtual 358, 3) := by decide +kernel
theorem dX11_turns_55 : decode cX11_turns 55 = .ok (.ifCond .eq 8, 3) := by decide +kernel
theorem dX11_turns_58 : decode cX11_turns 58 = .ok (.iconst 0, 1) := by decide +kernel
theorem dX11_turns_59 : decode cX11_turns 59 = .ok (.istore_n 2, 1) := by decide +kernel
theorem dX11_turns_60 : decode cX11_turns 60 = .ok (.goto 21, 3) := by decide +kernel
theorem dX11_turns_63 : decode cX11_turns 63 = .ok (.aload_n 0, 1) := by decide +kernel
theorem dX11_turns_64 : decode cX11_turns 64 = .ok (.getfield 100, 3) := by decide +kernel
theorem dX11_turns_67 : decode cX11_turns 67 = .ok (.iload 4, 2) := by decide +kernel
theorem dX11_turns_69 : decode cX11_turns 69 = .ok (.iload 5, 2) := by decide +kernel
theorem dX11_turns_71 : decode cX11_turns 71 = .ok (.bipush 10, 2) := by decide +kernel
theorem dX11_turns_73 : decode cX11_turns 73 = .ok (.irem, 1) := by decide +kernel
theorem dX11_turns_74 : decode cX11_turns 74 = .ok (.iastore, 1) := by decide +kernel
theorem dX11_turns_75 : decode cX11_turns 75 = .ok (.iload 5, 2) := by decide +kernel
theorem dX11_turns_77 : decode cX11_turns 77 = .ok (.bipush 10, 2) := by decide +kernel
theorem dX11_turns_79 : decode cX11_turns 79 = .ok (.idiv, 1) := by decide +kernel
theorem dX11_turns_80 : decode cX11_turns 80 = .ok (.istore_n 2, 1) := by decide +kernel
theorem dX11_turns_81 : decode cX11_turns 81 = .ok (.iinc 3 1, 3) := by decide +kernel
theorem dX11_turns_84 : decode cX11_turns 84 = .ok (.goto (-71), 3) := by decide +kernel
theorem dX11_turns_87 : decode cX11_turns 87 = .ok (.aload_n 0, 1) := by decide +kernel
theorem dX11_turns_88 : decode cX11_turns 88 = .ok (.dup, 1) := by decide +kernel
theorem dX11_turns_89 : decode cX11_turns 89 = .ok (.getfield 347, 3) := by decide +kernel
theorem dX11_turns_92 : decode cX11_turns 92 = .ok (.iload_n 2, 1) := by decide +kernel
theorem dX11_turns_93 : decode cX11_turns 93 = .ok (.iadd, 1) := by decide +kernel
theorem dX11_turns_94 : decode cX11_turns 94 = .ok (.putfield 347, 3) := by decide +kernel
theorem dX11_turns_97 : decode cX11_turns 97 = .ok (.iinc 1 1, 3) := by decide +kernel
theorem dX11_turns_100 : decode cX11_turns 100 = .ok (.goto (-98), 3) := by decide +kernel
theorem dX11_turns_103 : decode cX11_turns 103 = .ok (.aload_n 0, 1) := by decide +kernel
theorem dX11_turns_104 : decode cX11_turns 104 = .ok (.dup, 1) := by decide +kernel
theorem dX11_turns_105 : decode cX11_turns 105 = .ok (.getfield 350, 3) := by decide +kernel
theorem dX11_turns_108 : decode cX11_turns 108 = .ok (.iconst 1, 1) := by decide +kernel
theorem dX11_turns_109 : decode cX11_turns 109 = .ok (.iadd, 1) := by decide +kernel
theorem dX11_turns_110 : decode cX11_turns 110 = .ok (.putfield 350, 3) := by decide +kernel
theorem dX11_turns_113 : decode cX11_turns 113 = .ok (.return_, 1) := by decide +kernel
theorem dX11_number_0 : decode cX11_number 0 = .ok (.iconst 0, 1) := by decide +kernel
theorem dX11_number_1 : decode cX11_number 1 = .ok (.istore_n 2, 1) := by decide +kernel
theorem dX11_number_2 : decode cX11_number 2 = .ok (.bipush 8, 2) := by decide +kernel
theorem dX11_number_4 : decode cX11_number 4 = .ok (.istore_n 3, 1) := by decide +kernel
theorem dX11_number_5 : decode cX11_number 5 = .ok (.iload_n 3, 1) := by decide +kernel
theorem dX11_number_6 : decode cX11_number 6 = .ok (.ifCond .lt 26, 3) := by decide +kernel
theorem dX11_number_9 : decode cX11_number 9 = .ok (.bipush 10, 2) := by decide +kernel
theorem dX11_number_11 : decode cX11_number 11 = .ok (.iload_n 2, 1) := by decide +kernel
theorem dX11_number_12 : decode cX11_number 12 = .ok (.imul, 1) := by decide +kernel
theorem dX11_number_13 : decode cX11_number 13 = .ok (.aload_n 0, 1) := by decide +kernel
theorem dX11_number_14 : decode cX11_number 14 = .ok (.getfield 100, 3) := by decide +kernel
theorem dX11_number_17 : decode cX11_number 17 = .ok (.bipush 9, 2) := by decide +kernel
theorem dX11_number_19 : decode cX11_number 19 = .ok (.iload_n 1, 1) := by decide +kernel
theorem dX11_number_20 : decode cX11_number 20 = .ok (.imul, 1) := by decide +kernel
theorem dX11_number_21 : decode cX11_number 21 = .ok (.iload_n 3, 1) := by decide +kernel
theorem dX11_number_22 : decode cX11_number 22 = .ok (.iadd, 1) := by decide +kernel
theorem dX11_number_23 : decode cX11_number 23 = .ok (.iaload, 1) := by decide +kernel
theorem dX11_number_24 : decode cX11_number 24 = .ok (.iadd, 1) := by decide +kernel
theorem dX11_number_25 : decode cX11_number 25 = .ok (.istore_n 2, 1) := by decide +kernel
theorem dX11_number_26 : decode cX11_number 26 = .ok (.iinc 3 (-1), 3) := by decide +kernel
theorem dX11_number_29 : decode cX11_number 29 = .ok (.goto (-24), 3) := by decide +kernel
theorem dX11_number_32 : decode cX11_number 32 = .ok (.iload_n 2, 1) := by decide +kernel
theorem dX11_number_33 : decode cX11_number 33 = .ok (.ireturn, 1) := by decide +kernel
theorem dX11_shown_0 : decode cX11_shown 0 = .ok (.lload_n 0, 1) := by decide +kernel
theorem dX11_shown_1 : decode cX11_shown 1 = .ok (.ldc2_w 361, 3) := by decide +kernel
theorem dX11_shown_4 : decode cX11_shown 4 = .ok (.lcmp, 1) := by decide +kernel
theorem dX11_shown_5 : decode cX11_shown 5 = .ok (.ifCond .le 11, 3) := by decide +kernel
theorem dX11_shown_8 : decode cX11_shown 8 = .ok (.lload_n 0, 1) := by decide +kernel
theorem dX11_shown_9 : decode cX11_shown 9 = .ok (.ldc2_w 248, 3) := by decide +kernel
theorem dX11_shown_12 : decode cX11_shown 12 = .ok (.lsub, 1) := by decide +kernel
theorem dX11_shown_13 : decode cX11_shown 13 = .ok (.goto 4, 3) := by decide +kernel
theorem dX11_shown_16 : decode cX11_shown 16 = .ok (.lload_n 0, 1) := by decide +kernel
theorem dX11_shown_17 : decode cX11_shown 17 = .ok (.l2i, 1) := by decide +kernel
theorem dX11_shown_18 : decode cX11_shown 18 = .ok (.ireturn, 1) := by decide +kernel
theorem dX11_turn_0 : decode cX11_turn 0 = .ok (.iload_n 1, 1) := by decide +kernel
theorem dX11_turn_1 : decode cX11_turn 1 = .ok (.i2l, 1) := by decide +kernel
theorem dX11_turn_2 : decode cX11_turn 2 = .ok (.lconst 0, 1) := by decide +kernel
theorem dX11_turn_3 : decode cX11_turn 3 = .ok (.ldc2_w 363, 3) := by decide +kernel
theorem dX11_turn_6 : decode cX11_turn 6 = .ok (.invokestatic 143, 3) := by decide +kernel
theorem dX11_turn_9 : decode cX11_turn 9 = .ok (.ifCond .ne 7, 3) := by decide +kernel
theorem dX11_turn_12 : decode cX11_turn 12 = .ok (.ldc_w 283, 3) := by decide +kernel
theorem dX11_turn_15 : decode cX11_turn 15 = .ok (.ireturn, 1) := by decide +kernel
theorem dX11_turn_16 : decode cX11_turn 16 = .ok (.iconst 0, 1) := by decide +kernel
theorem dX11_turn_17 : decode cX11_turn 17 = .ok (.istore_n 2, 1) := by decide +kernel
theorem dX11_turn_18 : decode cX11_turn 18 = .ok (.iload_n 2, 1) := by decide +kernel
theorem dX11_turn_19 : decode cX11_turn 19 = .ok (.iload_n 1, 1) := by decide +kernel
theorem dX11_turn_20 : decode cX11_turn 20 = .ok (.if_icmp .ge 13, 3) := by decide +kernel
theorem dX11_turn_23 : decode cX11_turn 23 = .ok (.aload_n 0, 1) := by decide +kernel
theorem dX11_turn_24 : decode cX11_turn 24 = .ok (.invokevirtual 365, 3) := by decide +kernel
theorem dX11_turn_27 : decode cX11_turn 27 = .ok (.iinc 2 1, 3) := by decide +kernel
theorem dX11_turn_30 : decode cX11_turn 30 = .ok (.goto (-12), 3) := by decide +kernel
theorem dX11_turn_33 : decode cX11_turn 33 = .ok (.aload_n 0, 1) := by decide +kernel
theorem dX11_turn_34 : decode cX11_turn 34 = .ok (.iconst 0, 1) := by decide +kernel
theorem dX11_turn_35 : decode cX11_turn 35 = .ok (.invokevirtual 368, 3) := by decide +kernel
theorem dX11_turn_38 : decode cX11_turn 38 = .ok (.i2l, 1) := by decide +kernel
theorem dX11_turn_39 : decode cX11_turn 39 = .ok (.invokestatic 372, 3) := by decide +kernel
theorem dX11_turn_42 : decode cX11_turn 42 = .ok (.ireturn, 1) := by decide +kernel
theorem dX11_column_0 : decode cX11_column 0 = .ok (.iload_n 1, 1) := by decide +kernel
theorem dX11_column_1 : decode cX11_column 1 = .ok (.i2l, 1) := by decide +kernel
theorem dX11_column_2 : decode cX11_column 2 = .ok (.lconst 0, 1) := by decide +kernel
theorem dX11_column_3 : decode cX11_column 3 = .ok (.ldc2_w 376, 3) := by decide +kernel
theorem dX11_column_6 : decode cX11_column 6 = .ok (.invokestatic 143, 3) := by decide +kernel
theorem dX11_column_9 : decode cX11_column 9 = .ok (.ifCond .ne 5, 3) := by decide +kernel
theorem dX11_column_12 : decode cX11_column 12 = .ok (.iconst (-1), 1) := by decide +kernel
theorem dX11_column_13 : decode cX11_column 13 = .ok (.ireturn, 1) := by decide +kernel
theorem dX11_column_14 : decode cX11_column 14 = .ok (.iload_n 1, 1) := by decide +kernel
theorem dX11_column_15 : decode cX11_column 15 = .ok (.iconst 5, 1) := by decide +kernel
theorem dX11_column_16 : decode cX11_column 16 = .ok (.if_icmp .ge 11, 3) := by decide +kernel
theorem dX11_column_19 : decode cX11_column 19 = .ok (.aload_n 0, 1) := by decide +kernel
theorem dX11_column_20 : decode cX11_column 20 = .ok (.iload_n 1, 1) := by decide +kernel
theorem dX11_column_21 : decode cX11_column 21 = .ok (.invokevirtual 368, 3) := by decide +kernel
theorem dX11_column_24 : decode cX11_column 24 = .ok (.goto 19, 3) := by decide +kernel
theorem dX11_column_27 : decode cX11_column 27 = .ok (.iload_n 1, 1) := by decide +kernel
theorem dX11_column_28 : decode cX11_column 28 = .ok (.iconst 5, 1) := by decide +kernel
theorem dX11_column_29 : decode cX11_column 29 = .ok (.if_icmp .ne 10, 3) := by decide +kernel
theorem dX11_column_32 : decode cX11_column 32 = .ok (.aload_n 0, 1) := by decide +kernel
theorem dX11_column_33 : decode cX11_column 33 = .ok (.getfield 347, 3) := by decide +kernel
theorem dX11_column_36 : decode cX11_column 36 = .ok (.goto 7, 3) := by decide +kernel
theorem dX11_column_39 : decode cX11_column 39 = .ok (.aload_n 0, 1) := by decide +kernel
theorem dX11_column_40 : decode cX11_column 40 = .ok (.getfield 350, 3) := by decide +kernel
theorem dX11_column_43 : decode cX11_column 43 = .ok (.ireturn, 1) := by decide +kernel
theorem dX11_settings_0 : decode cX11_settings 0 = .ok (.aload_n 0, 1) := by decide +kernel
theorem dX11_settings_1 : decode cX11_settings 1 = .ok (.iload_n 1, 1) := by decide +kernel
theorem dX11_settings_2 : decode cX11_settings 2 = .ok (.invokevirtual 310, 3) := by decide +kernel
theorem dX11_settings_5 : decode cX11_settings 5 = .ok (.ifCond .eq 15, 3) := by decide +kernel
theorem dX11_settings_8 : decode cX11_settings 8 = .ok (.iload_n 2, 1) := by decide +kernel
theorem dX11_settings_9 : decode cX11_settings 9 = .ok (.i2l, 1) := by decide +kernel
theorem dX11_settings_10 : decode cX11_settings 10 = .ok (.lconst 0, 1) := by decide +kernel
theorem dX11_settings_11 : decode cX11_settings 11 = .ok (.ldc2_w 378, 3) := by decide +kernel
theorem dX11_settings_14 : decode cX11_settings 14 = .ok (.invokestatic 143, 3) := by decide +kernel
theorem dX11_settings_17 : decode cX11_settings 17 = .ok (.ifCond .ne 5, 3) := by decide +kernel
theorem dX11_settings_20 : decode cX11_settings 20 = .ok (.iconst (-1), 1) := by decide +kernel
theorem dX11_settings_21 : decode cX11_settings 21 = .ok (.ireturn, 1) := by decide +kernel
theorem dX11_settings_22 : decode cX11_settings 22 = .ok (.aload_n 0, 1) := by decide +kernel
theorem dX11_settings_23 : decode cX11_settings 23 = .ok (.getfield 32, 3) := by decide +kernel
theorem dX11_settings_26 : decode cX11_settings 26 = .ok (.iload_n 1, 1) := by decide +kernel
theorem dX11_settings_27 : decode cX11_settings 27 = .ok (.iaload, 1) := by decide +kernel
theorem dX11_settings_28 : decode cX11_settings 28 = .ok (.istore_n 3, 1) := by decide +kernel
theorem dX11_settings_29 : decode cX11_settings 29 = .ok (.aload_n 0, 1) := by decide +kernel
theorem dX11_settings_30 : decode cX11_settings 30 = .ok (.getfield 125, 3) := by decide +kernel
theorem dX11_settings_33 : decode cX11_settings 33 = .ok (.iload_n 3, 1) := by decide +kernel
theorem dX11_settings_34 : decode cX11_settings 34 = .ok (.iconst 0, 1) := by decide +kernel
theorem dX11_settings_35 : decode cX11_settings 35 = .ok (.iastore, 1) := by decide +kernel
theorem dX11_settings_36 : decode cX11_settings 36 = .ok (.iload_n 3, 1) := by decide +kernel
theorem dX11_settings_37 : decode cX11_settings 37 = .ok (.iconst 1, 1) := by decide +kernel
theorem dX11_settings_38 : decode cX11_settings 38 = .ok (.isub, 1) := by decide +kernel
theorem dX11_settings_39 : decode cX11_settings 39 = .ok (.istore 4, 2) := by decide +kernel
theorem dX11_settings_41 : decode cX11_settings 41 = .ok (.iload 4, 2) := by decide +kernel
theorem dX11_settings_43 : decode cX11_settings 43 = .ok (.ifCond .lt 94, 3) := by decide +kernel
theorem dX11_settings_46 : decode cX11_settings 46 = .ok (.aload_n 0, 1) := by decide +kernel
theorem dX11_settings_47 : decode cX11_settings 47 = .ok (.getfield 125, 3) := by decide +kernel
theorem dX11_settings_50 : decode cX11_settings 50 = .ok (.iload 4, 2) := by decide +kernel
theorem dX11_settings_52 : decode cX11_settings 52 = .ok (.aload_n 0, 1) := by decide +kernel
theorem dX11_settings_53 : decode cX11_settings 53 = .ok (.getfield 125, 3) := by decide +kernel
theorem dX11_settings_56 : decode cX11_settings 56 = .ok (.iload 4, 2) := by decide +kernel
theorem dX11_settings_58 : decode cX11_settings 58 = .ok (.iconst 1, 1) := by decide +kernel
theorem dX11_settings_59 : decode cX11_settings 59 = .ok (.iadd, 1) := by decide +kernel
theorem dX11_settings_60 : decode cX11_settings 60 = .ok (.iaload, 1) := by decide +kernel
theorem dX11_settings_61 : decode cX11_settings 61 = .ok (.iastore, 1) := by decide +kernel
theorem dX11_settings_62 : decode cX11_settings 62 = .ok (.aload_n 0, 1) := by decide +kernel
theorem dX11_settings_63 : decode cX11_settings 63 = .ok (.getfield 35, 3) := by decide +kernel
theorem dX11_settings_66 : decode cX11_settings 66 = .ok (.iload_n 1, 1) := by decide +kernel
theorem dX11_settings_67 : decode cX11_settings 67 = .ok (.iload 4, 2) := by decide +kernel
theorem dX11_settings_69 : decode cX11_settings 69 = .ok (.invokestatic 316, 3) := by decide +kernel
theorem dX11_settings_72 : decode cX11_settings 72 = .ok (.iaload, 1) := by decide +kernel
theorem dX11_settings_73 : decode cX11_settings 73 = .ok (.ldc_w 283, 3) := by decide +kernel
theorem dX11_settings_76 : decode cX11_settings 76 = .ok (.if_icmp .ne 6, 3) := by decide +kernel
theorem dX11_settings_79 : decode cX11_settings 79 = .ok (.goto 52, 3) := by decide +kernel
theorem dX11_settings_82 : decode cX11_settings 82 = .ok (.aload_n 0, 1) := by decide +kernel
theorem dX11_settings_83 : decode cX11_settings 83 = .ok (.getfield 125, 3) := by decide +kernel
theorem dX11_settings_86 : decode cX11_settings 86 = .ok (.iload 4, 2) := by decide +kernel
theorem dX11_settings_88 : decode cX11_settings 88 = .ok (.dup2, 1) := by decide +kernel
theorem dX11_settings_89 : decode cX11_settings 89 = .ok (.iaload, 1) := by decide +kernel
theorem dX11_settings_90 : decode cX11_settings 90 = .ok (.bipush 30, 2) := by decide +kernel
theorem dX11_settings_92 : decode cX11_settings 92 = .ok (.iadd, 1) := by decide +kernel
theorem dX11_settings_93 : decode cX11_settings 93 = .ok (.iastore, 1) := by decide +kernel
theorem dX11_settings_94 : decode cX11_settings 94 = .ok (.iconst 1, 1) := by decide +kernel
theorem dX11_settings_95 : decode cX11_settings 95 = .ok (.istore 5, 2) := by decide +kernel
theorem dX11_settings_97 : decode cX11_settings 97 = .ok (.iload 5, 2) := by decide +kernel
theorem dX11_settings_99 : decode cX11_settings 99 = .ok (.iconst 4, 1) := by decide +kernel
theorem dX11_settings_100 : decode cX11_settings 100 = .ok (.if_icmp .gt 31, 3) := by decide +kernel
theorem dX11_settings_103 : decode cX11_settings 103 = .ok (.aload_n 0, 1) := by decide +kernel
theorem dX11_settings_104 : decode cX11_settings 104 = .ok (.iload_n 1, 1) := by decide +kernel
theorem dX11_settings_105 : decode cX11_settings 105 = .ok (.iload 4, 2) := by decide +kernel
theorem dX11_settings_107 : decode cX11_settings 107 = .ok (.iload 5, 2) := by decide +kernel
theorem dX11_settings_109 : decode cX11_settings 109 = .ok (.invokevirtual 339, 3) := by decide +kernel
theorem dX11_settings_112 : decode cX11_settings 112 = .ok (.ifCond .eq 13, 3) := by decide +kernel
theorem dX11_settings_115 : decode cX11_settings 115 = .ok (.aload_n 0, 1) := by decide +kernel
theorem dX11_settings_116 : decode cX11_settings 116 = .ok (.iload_n 1, 1) := by decide +kernel
theorem dX11_settings_117 : decode cX11_settings 117 = .ok (.iload 4, 2) := by decide +kernel
theorem dX11_settings_119 : decode cX11_settings 119 = .ok (.iload 5, 2) := by decide +kernel
theorem dX11_settings_121 : decode cX11_settings 121 = .ok (.iload_n 2, 1) := by decide +kernel
theorem dX11_settings_122 : decode cX11_settings 122 = .ok (.invokevirtual 380, 3) := by decide +kernel
theorem dX11_settings_125 : decode cX11_settings 125 = .ok (.iinc 5 1, 3) := by decide +kernel
theorem dX11_settings_128 : decode cX11_settings 128 = .ok (.goto (-31), 3) := by decide +kernel
theorem dX11_settings_131 : decode cX11_settings 131 = .ok (.iinc 4 (-1), 3) := by decide +kernel
theorem dX11_settings_134 : decode cX11_settings 134 = .ok (.goto (-93), 3) := by decide +kernel
theorem dX11_settings_137 : decode cX11_settings 137 = .ok (.aload_n 0, 1) := by decide +kernel
theorem dX11_settings_138 : decode cX11_settings 138 = .ok (.getfield 125, 3) := by decide +kernel
theorem dX11_settings_141 : decode cX11_settings 141 = .ok (.iconst 0, 1) := by decide +kernel
theorem dX11_settings_142 : decode cX11_settings 142 = .ok (.iaload, 1) := by decide +kernel
theorem dX11_settings_143 : decode cX11_settings 143 = .ok (.ireturn, 1) := by decide +kernel
theorem dX11_runs_0 : decode cX11_runs 0 = .ok (.iconst 0, 1) := by decide +kernel
theorem dX11_runs_1 : decode cX11_runs 1 = .ok (.istore 5, 2) := by decide +kernel
theorem dX11_runs_3 : decode cX11_runs 3 = .ok (.iload 5, 2) := by decide +kernel
theorem dX11_runs_5 : decode cX11_runs 5 = .ok (.iconst 5, 1) := by decide +kernel
theorem dX11_runs_6 : decode cX11_runs 6 = .ok (.if_icmp .ge 37, 3) := by decide +kernel
theorem dX11_runs_9 : decode cX11_runs 9 = .ok (.aload_n 0, 1) := by decide +kernel
theorem dX11_runs_10 : decode cX11_runs 10 = .ok (.getfield 128, 3) := by decide +kernel
theorem dX11_runs_13 : decode cX11_runs 13 = .ok (.iload 5, 2) := by decide +kernel
theorem dX11_runs_15 : decode cX11_runs 15 = .ok (.iload 5, 2) := by decide +kernel
theorem dX11_runs_17 : decode cX11_runs 17 = .ok (.iload_n 3, 1) := by decide +kernel
theorem dX11_runs_18 : decode cX11_runs 18 = .ok (.if_icmp .gt 17, 3) := by decide +kernel
theorem dX11_runs_21 : decode cX11_runs 21 = .ok (.aload_n 0, 1) := by decide +kernel
theorem dX11_runs_22 : decode cX11_runs 22 = .ok (.iload_n 1, 1) := by decide +kernel
theorem dX11_runs_23 : decode cX11_runs 23 = .ok (.iload_n 2, 1) := by decide +kernel
theorem dX11_runs_24 : decode cX11_runs 24 = .ok (.invokestatic 316, 3) := by decide +kernel
theorem dX11_runs_27 : decode cX11_runs 27 = .ok (.iload 5, 2) := by decide +kernel
theorem dX11_runs_29 : decode cX11_runs 29 = .ok (.invokevirtual 343, 3) := by decide +kernel
theorem dX11_runs_32 : decode cX11_runs 32 = .ok (.goto 4, 3) := by decide +kernel
theorem dX11_runs_35 : decode cX11_runs 35 = .ok (.lconst 0, 1) := by decide +kernel
theorem dX11_runs_36 : decode cX11_runs 36 = .ok (.lastore, 1) := by decide +kernel
theorem dX11_runs_37 : decode cX11_runs 37 = .ok (.iinc 5 1, 3) := by decide +kernel
theorem dX11_runs_40 : decode cX11_runs 40 = .ok (.goto (-37), 3) := by decide +kernel
theorem dX11_runs_43 : decode cX11_runs 43 = .ok (.iload_n 2, 1) := by decide +kernel
theorem dX11_runs_44 : decode cX11_runs 44 = .ok (.istore 5, 2) := by decide +kernel
theorem dX11_runs_46 : decode cX11_runs 46 = .ok (.iload 5, 2) := by decide +kernel
theorem dX11_runs_48 : decode cX11_runs 48 = .ok (.aload_n 0, 1) := by decide +kernel
theorem dX11_runs_49 : decode cX11_runs 49 = .ok (.getfield 32, 3) := by decide +kernel
theorem dX11_runs_52 : decode cX11_runs 52 = .ok (.iload_n 1, 1) := by decide +kernel
theorem dX11_runs_53 : decode cX11_runs 53 = .ok (.iaload, 1) := by decide +kernel
theorem dX11_runs_54 : decode cX11_runs 54 = .ok (.if_icmp .ge 163, 3) := by decide +kernel
theorem dX11_runs_57 : decode cX11_runs 57 = .ok (.aload_n 0, 1) := by decide +kernel
theorem dX11_runs_58 : decode cX11_runs 58 = .ok (.getfield 35, 3) := by decide +kernel
theorem dX11_runs_61 : decode cX11_runs 61 = .ok (.iload_n 1, 1) := by decide +kernel
theorem dX11_runs_62 : decode cX11_runs 62 = .ok (.iload 5, 2) := by decide +kernel
theorem dX11_runs_64 : decode cX11_runs 64 = .ok (.invokestatic 316, 3) := by decide +kernel
theorem dX11_runs_67 : decode cX11_runs 67 = .ok (.iaload, 1) := by decide +kernel
theorem dX11_runs_68 : decode cX11_runs 68 = .ok (.istore 6, 2) := by decide +kernel
theorem dX11_runs_70 : decode cX11_runs 70 = .ok (.iload 6, 2) := by decide +kernel
theorem dX11_runs_72 : decode cX11_runs 72 = .ok (.ldc_w 283, 3) := by decide +kernel
theorem dX11_runs_75 : decode cX11_runs 75 = .ok (.if_icmp .ne 9, 3) := by decide +kernel
theorem dX11_runs_78 : decode cX11_runs 78 = .ok (.ldc2_w 248, 3) := by decide +kernel
theorem dX11_runs_81 : decode cX11_runs 81 = .ok (.goto 17, 3) := by decide +kernel
theorem dX11_runs_84 : decode cX11_runs 84 = .ok (.aload_n 0, 1) := by decide +kernel
theorem dX11_runs_85 : decode cX11_runs 85 = .ok (.getfield 128, 3) := by decide +kernel
theorem dX11_runs_88 : decode cX11_runs 88 = .ok (.iconst 0, 1) := by decide +kernel
theorem dX11_runs_89 : decode cX11_runs 89 = .ok (.laload, 1) := by decide +kernel
theorem dX11_runs_90 : decode cX11_runs 90 = .ok (.invokestatic 372, 3) := by decide +kernel
theorem dX11_runs_93 : decode cX11_runs 93 = .ok (.i2l, 1) := by decide +kernel
theorem dX11_runs_94 : decode cX11_runs 94 = .ok (.iload 6, 2) := by decide +kernel
theorem dX11_runs_96 : decode cX11_runs 96 = .ok (.i2l, 1) := by decide +kernel
theorem dX11_runs_97 : decode cX11_runs 97 = .ok (.lsub, 1) := by decide +kernel
theorem dX11_runs_98 : decode cX11_runs 98 = .ok (.lstore 7, 2) := by decide +kernel
theorem dX11_runs_100 : decode cX11_runs 100 = .ok (.lload 7, 2) := by decide +kernel
theorem dX11_runs_102 : decode cX11_runs 102 = .ok (.iload 4, 2) := by decide +kernel
theorem dX11_runs_104 : decode cX11_runs 104 = .ok (.ineg, 1) := by decide +kernel
theorem dX11_runs_105 : decode cX11_runs 105 = .ok (.i2l, 1) := by decide +kernel
theorem dX11_runs_106 : decode cX11_runs 106 = .ok (.iload 4, 2) := by decide +kernel
theorem dX11_runs_108 : decode cX11_runs 108 = .ok (.i2l, 1) := by decide +kernel
theorem dX11_runs_109 : decode cX11_runs 109 = .ok (.invokestatic 143, 3) := by decide +kernel
theorem dX11_runs_112 : decode cX11_runs 112 = .ok (.ifCond .ne 4, 3) := by decide +kernel
theorem dX11_runs_115 : decode cX11_runs 115 = .ok (.return_, 1) := by decide +kernel
theorem dX11_runs_116 : decode cX11_runs 116 = .ok (.bipush 14, 2) := by decide +kernel
theorem dX11_runs_118 : decode cX11_runs 118 = .ok (.iconst 4, 1) := by decide +kernel
theorem dX11_runs_119 : decode cX11_runs 119 = .ok (.iload_n 3, 1) := by decide +kernel
theorem dX11_runs_120 : decode cX11_runs 120 = .ok (.imul, 1) := by decide +kernel
theorem dX11_runs_121 : decode cX11_runs 121 = .ok (.iadd, 1) := by decide +kernel
theorem dX11_runs_122 : decode cX11_runs 122 = .ok (.iload 5, 2) := by decide +kernel
theorem dX11_runs_124 : decode cX11_runs 124 = .ok (.iadd, 1) := by decide +kernel
theorem dX11_runs_125 : decode cX11_runs 125 = .ok (.iload_n 2, 1) := by decide +kernel
theorem dX11_runs_126 : decode cX11_runs 126 = .ok (.isub, 1) := by decide +kernel
theorem dX11_runs_127 : decode cX11_runs 127 = .ok (.aload_n 0, 1) := by decide +kernel
theorem dX11_runs_128 : decode cX11_runs 128 = .ok (.getfield 125, 3) := by decide +kernel
theorem dX11_runs_131 : decode cX11_runs 131 = .ok (.iload 5, 2) := by decide +kernel
theorem dX11_runs_133 : decode cX11_runs 133 = .ok (.iconst 1, 1) := by decide +kernel
theorem dX11_runs_134 : decode cX11_runs 134 = .ok (.iadd, 1) := by decide +kernel
theorem dX11_runs_135 : decode cX11_runs 135 = .ok (.iaload, 1) := by decide +kernel
theorem dX11_runs_136 : decode cX11_runs 136 = .ok (.iadd, 1) := by decide +kernel
theorem dX11_runs_137 : decode cX11_runs 137 = .ok (.istore 9, 2) := by decide +kernel
theorem dX11_runs_139 : decode cX11_runs 139 = .ok (.iload 5, 2) := by decide +kernel
theorem dX11_runs_141 : decode cX11_runs 141 = .ok (.iload_n 2, 1) := by decide +kernel
theorem dX11_runs_142 : decode cX11_runs 142 = .ok (.iload_n 3, 1) := by decide +kernel
theorem dX11_runs_143 : decode cX11_runs 143 = .ok (.iadd, 1) := by decide +kernel
theorem dX11_runs_144 : decode cX11_runs 144 = .ok (.if_icmp .lt 22, 3) := by decide +kernel
theorem dX11_runs_147 : decode cX11_runs 147 = .ok (.iload 9, 2) := by decide +kernel
theorem dX11_runs_149 : decode cX11_runs 149 = .ok (.aload_n 0, 1) := by decide +kernel
theorem dX11_runs_150 : decode cX11_runs 150 = .ok (.getfield 125, 3) := by decide +kernel
theorem dX11_runs_153 : decode cX11_runs 153 = .ok (.iload_n 2, 1) := by decide +kernel
theorem dX11_runs_154 : decode cX11_runs 154 = .ok (.iaload, 1) := by decide +kernel
theorem dX11_runs_155 : decode cX11_runs 155 = .ok (.if_icmp .ge 11, 3) := by decide +kernel
theorem dX11_runs_158 : decode cX11_runs 158 = .ok (.aload_n 0, 1) := by decide +kernel
theorem dX11_runs_159 : decode cX11_runs 159 = .ok (.getfield 125, 3) := by decide +kernel
theorem dX11_runs_162 : decode cX11_runs 162 = .ok (.iload_n 2, 1) := by decide +kernel
theorem dX11_runs_163 : decode cX11_runs 163 = .ok (.iload 9, 2) := by decide +kernel
theorem dX11_runs_165 : decode cX11_runs 165 = .ok (.iastore, 1) := by decide +kernel
theorem dX11_runs_166 : decode cX11_runs 166 = .ok (.iconst 0, 1) := by decide +kernel
theorem dX11_runs_167 : decode cX11_runs 167 = .ok (.istore 10, 2) := by decide +kernel
theorem dX11_runs_169 : decode cX11_runs 169 = .ok (.iload 10, 2) := by decide +kernel
theorem dX11_runs_171 : decode cX11_runs 171 = .ok (.iconst 1, 1) := by decide +kernel
theorem dX11_runs_172 : decode cX11_runs 172 = .ok (.iadd, 1) := by decide +kernel
theorem dX11_runs_173 : decode cX11_runs 173 = .ok (.iconst 5, 1) := by decide +kernel
theorem dX11_runs_174 : decode cX11_runs 174 = .ok (.if_icmp .ge 37, 3) := by decide +kernel
theorem dX11_runs_177 : decode cX11_runs 177 = .ok (.aload_n 0, 1) := by decide +kernel
theorem dX11_runs_178 : decode cX11_runs 178 = .ok (.getfield 128, 3) := by decide +kernel
theorem dX11_runs_181 : decode cX11_runs 181 = .ok (.iload 10, 2) := by decide +kernel
theorem dX11_runs_183 : decode cX11_runs 183 = .ok (.aload_n 0, 1) := by decide +kernel
theorem dX11_runs_184 : decode cX11_runs 184 = .ok (.getfield 128, 3) := by decide +kernel
theorem dX11_runs_187 : decode cX11_runs 187 = .ok (.iload 10, 2) := by decide +kernel
theorem dX11_runs_189 : decode cX11_runs 189 = .ok (.laload, 1) := by decide +kernel
theorem dX11_runs_190 : decode cX11_runs 190 = .ok (.aload_n 0, 1) := by decide +kernel
theorem dX11_runs_191 : decode cX11_runs 191 = .ok (.getfield 128, 3) := by decide +kernel
theorem dX11_runs_194 : decode cX11_runs 194 = .ok (.iload 10, 2) := by decide +kernel
theorem dX11_runs_196 : decode cX11_runs 196 = .ok (.iconst 1, 1) := by decide +kernel
theorem dX11_runs_197 : decode cX11_runs 197 = .ok (.iadd, 1) := by decide +kernel
theorem dX11_runs_198 : decode cX11_runs 198 = .ok (.laload, 1) := by decide +kernel
theorem dX11_runs_199 : decode cX11_runs 199 = .ok (.ladd, 1) := by decide +kernel
theorem dX11_runs_200 : decode cX11_runs 200 = .ok (.ldc2_w 248, 3) := by decide +kernel
theorem dX11_runs_203 : decode cX11_runs 203 = .ok (.lrem, 1) := by decide +kernel
theorem dX11_runs_204 : decode cX11_runs 204 = .ok (.lastore, 1) := by decide +kernel
theorem dX11_runs_205 : decode cX11_runs 205 = .ok (.iinc 10 1, 3) := by decide +kernel
theorem dX11_runs_208 : decode cX11_runs 208 = .ok (.goto (-39), 3) := by decide +kernel
theorem dX11_runs_211 : decode cX11_runs 211 = .ok (.iinc 5 1, 3) := by decide +kernel
theorem dX11_runs_214 : decode cX11_runs 214 = .ok (.goto (-168), 3) := by decide +kernel
theorem dX11_runs_217 : decode cX11_runs 217 = .ok (.return_, 1) := by decide +kernel
theorem dX11_row_0 : decode cX11_row 0 = .ok (.iload_n 1, 1) := by decide +kernel
theorem dX11_row_1 : decode cX11_row 1 = .ok (.i2l, 1) := by decide +kernel
theorem dX11_row_2 : decode cX11_row 2 = .ok (.ldc2_w 384, 3) := by decide +kernel
theorem dX11_row_5 : decode cX11_row 5 = .ok (.ldc2_w 386, 3) := by decide +kernel
theorem dX11_row_8 : decode cX11_row 8 = .ok (.invokestatic 143, 3) := by decide +kernel
theorem dX11_row_11 : decode cX11_row 11 = .ok (.ifCond .eq 12, 3) := by decide +kernel
theorem dX11_row_14 : decode cX11_row 14 = .ok (.aload_n 0, 1) := by decide +kernel
theorem dX11_row_15 : decode cX11_row 15 = .ok (.getfield 388, 3) := by decide +kernel
theorem dX11_row_18 : decode cX11_row 18 = .ok (.bipush 20, 2) := by decide +kernel
theorem dX11_row_20 : decode cX11_row 20 = .ok (.if_icmp .ne 5, 3) := by decide +kernel
theorem dX11_row_23 : decode cX11_row 23 = .ok (.iconst (-1), 1) := by decide +kernel
theorem dX11_row_24 : decode cX11_row 24 = .ok (.ireturn, 1) := by decide +kernel
theorem dX11_row_25 : decode cX11_row 25 = .ok (.aload_n 0, 1) := by decide +kernel
theorem dX11_row_26 : decode cX11_row 26 = .ok (.getfield 112, 3) := by decide +kernel
theorem dX11_row_29 : decode cX11_row 29 = .ok (.aload_n 0, 1) := by decide +kernel
theorem dX11_row_30 : decode cX11_row 30 = .ok (.getfield 388, 3) := by decide +kernel
theorem dX11_row_33 : decode cX11_row 33 = .ok (.iload_n 1, 1) := by decide +kernel
theorem dX11_row_34 : decode cX11_row 34 = .ok (.iastore, 1) := by decide +kernel
theorem dX11_row_35 : decode cX11_row 35 = .ok (.aload_n 0, 1) := by decide +kernel
theorem dX11_row_36 : decode cX11_row 36 = .ok (.dup, 1) := by decide +kernel
theorem dX11_row_37 : decode cX11_row 37 = .ok (.getfield 388, 3) := by decide +kernel
theorem dX11_row_40 : decode cX11_row 40 = .ok (.iconst 1, 1) := by decide +kernel
theorem dX11_row_41 : decode cX11_row 41 = .ok (.iadd, 1) := by decide +kernel
theorem dX11_row_42 : decode cX11_row 42 = .ok (.putfield 388, 3) := by decide +kernel
theorem dX11_row_45 : decode cX11_row 45 = .ok (.aload_n 0, 1) := by decide +kernel
theorem dX11_row_46 : decode cX11_row 46 = .ok (.getfield 388, 3) := by decide +kernel
theorem dX11_row_49 : decode cX11_row 49 = .ok (.ireturn, 1) := by decide +kernel
theorem dX11_lay_0 : decode cX11_lay 0 = .ok (.aload_n 0, 1) := by decide +kernel
theorem dX11_lay_1 : decode cX11_lay 1 = .ok (.iload_n 1, 1) := by decide +kernel
theorem dX11_lay_2 : decode cX11_lay 2 = .ok (.invokevirtual 310, 3) := by decide +kernel
theorem dX11_lay_5 : decode cX11_lay 5 = .ok (.ifCond .eq 33, 3) := by decide +kernel
theorem dX11_lay_8 : decode cX11_lay 8 = .ok (.iload_n 3, 1) := by decide +kernel
theorem dX11_lay_9 : decode cX11_lay 9 = .ok (.i2l, 1) := by decide +kernel
theorem dX11_lay_10 : decode cX11_lay 10 = .ok (.lconst 1, 1) := by decide +kernel
theorem dX11_lay_11 : decode cX11_lay 11 = .ok (.ldc2_w 391, 3) := by decide +kernel
theorem dX11_lay_14 : decode cX11_lay 14 = .ok (.invokestatic 143, 3) := by decide +kernel
theorem dX11_lay_17 : decode cX11_lay 17 = .ok (.ifCond .eq 21, 3) := by decide +kernel
theorem dX11_lay_20 : decode cX11_lay 20 = .ok (.iload_n 2, 1) := by decide +kernel
theorem dX11_lay_21 : decode cX11_lay 21 = .ok (.i2l, 1) := by decide +kernel
theorem dX11_lay_22 : decode cX11_lay 22 = .ok (.lconst 0, 1) := by decide +kernel
theorem dX11_lay_23 : decode cX11_lay 23 = .ok (.aload_n 0, 1) := by decide +kernel
theorem dX11_lay_24 : decode cX11_lay 24 = .ok (.getfield 32, 3) := by decide +kernel
theorem dX11_lay_27 : decode cX11_lay 27 = .ok (.iload_n 1, 1) := by decide +kernel
theorem dX11_lay_28 : decode cX11_lay 28 = .ok (.iaload, 1) := by decide +kernel
theorem dX11_lay_29 : decode cX11_lay 29 = .ok (.iload_n 3, 1) := by decide +kernel
theorem dX11_lay_30 : decode cX11_lay 30 = .ok (.isub, 1) := by decide +kernel
theorem dX11_lay_31 : decode cX11_lay 31 = .ok (.i2l, 1) := by decide +kernel
theorem dX11_lay_32 : decode cX11_lay 32 = .ok (.invokestatic 143, 3) := by decide +kernel
theorem dX11_lay_35 : decode cX11_lay 35 = .ok (.ifCond .ne 5, 3) := by decide +kernel
theorem dX11_lay_38 : decode cX11_lay 38 = .ok (.iconst (-1), 1) := by decide +kernel
theorem dX11_lay_39 : decode cX11_lay 39 = .ok (.ireturn, 1) := by decide +kernel
theorem dX11_lay_40 : decode cX11_lay 40 = .ok (.iconst 0, 1) := by decide +kernel
theorem dX11_lay_41 : decode cX11_lay 41 = .ok (.istore 4, 2) := by decide +kernel
theorem dX11_lay_43 : decode cX11_lay 43 = .ok (.aload_n 0, 1) := by decide +kernel
theorem dX11_lay_44 : decode cX11_lay 44 = .ok (.iload_n 3, 1) := by decide +kernel
theorem dX11_lay_45 : decode cX11_lay 45 = .ok (.putfield 388, 3) := by decide +kernel
theorem dX11_lay_48 : decode cX11_lay 48 = .ok (.iconst 0, 1) := by decide +kernel
theorem dX11_lay_49 : decode cX11_lay 49 = .ok (.istore 5, 2) := by decide +kernel
theorem dX11_lay_51 : decode cX11_lay 51 = .ok (.iload 5, 2) := by decide +kernel
theorem dX11_lay_53 : decode cX11_lay 53 = .ok (.iload_n 3, 1) := by decide +kernel
theorem dX11_lay_54 : decode cX11_lay 54 = .ok (.if_icmp .ge 91, 3) := by decide +kernel
theorem dX11_lay_57 : decode cX11_lay 57 = .ok (.iload_n 1, 1) := by decide +kernel
theorem dX11_lay_58 : decode cX11_lay 58 = .ok (.iload_n 2, 1) := by decide +kernel
theorem dX11_lay_59 : decode cX11_lay 59 = .ok (.iload 5, 2) := by decide +kernel
theorem dX11_lay_61 : decode cX11_lay 61 = .ok (.iadd, 1) := by decide +kernel
theorem dX11_lay_62 : decode cX11_lay 62 = .ok (.invokestatic 316, 3) := by decide +kernel
theorem dX11_lay_65 : decode cX11_lay 65 = .ok (.istore 6, 2) := by decide +kernel
theorem dX11_lay_67 : decode cX11_lay 67 = .ok (.aload_n 0, 1) := by decide +kernel
theorem dX11_lay_68 : decode cX11_lay 68 = .ok (.getfield 112, 3) := by decide +kernel
theorem dX11_lay_71 : decode cX11_lay 71 = .ok (.iload 5, 2) := by decide +kernel
theorem dX11_lay_73 : decode cX11_lay 73 = .ok (.aload_n 0, 1) := by decide +kernel
theorem dX11_lay_74 : decode cX11_lay 74 = .ok (.iload 6, 2) := by decide +kernel
theorem dX11_lay_76 : decode cX11_lay 76 = .ok (.invokevirtual 332, 3) := by decide +kernel
theorem dX11_lay_79 : decode cX11_lay 79 = .ok (.ifCond .eq 33, 3) := by decide +kernel
theorem dX11_lay_82 : decode cX11_lay 82 = .ok (.aload_n 0, 1) := by decide +kernel
theorem dX11_lay_83 : decode cX11_lay 83 = .ok (.getfield 53, 3) := by decide +kernel
theorem dX11_lay_86 : decode cX11_lay 86 = .ok (.iload 6, 2) := by decide +kernel
theorem dX11_lay_88 : decode cX11_lay 88 = .ok (.iaload, 1) := by decide +kernel
theorem dX11_lay_89 : decode cX11_lay 89 = .ok (.i2l, 1) := by decide +kernel
theorem dX11_lay_90 : decode cX11_lay 90 = .ok (.ldc2_w 384, 3) := by decide +kernel
theorem dX11_lay_93 : decode cX11_lay 93 = .ok (.ldc2_w 386, 3) := by decide +kernel
theorem dX11_lay_96 : decode cX11_lay 96 = .ok (.invokestatic 143, 3) := by decide +kernel
theorem dX11_lay_99 : decode cX11_lay 99 = .ok (.ifCond .eq 13, 3) := by decide +kernel
theorem dX11_lay_102 : decode cX11_lay 102 = .ok (.aload_n 0, 1) := by decide +kernel
theorem dX11_lay_103 : decode cX11_lay 103 = .ok (.getfield 53, 3) := by decide +kernel
theorem dX11_lay_106 : decode cX11_lay 106 = .ok (.iload 6, 2) := by decide +kernel
theorem dX11_lay_108 : decode cX11_lay 108 = .ok (.iaload, 1) := by decide +kernel
theorem dX11_lay_109 : decode cX11_lay 109 = .ok (.goto 6, 3) := by decide +kernel
theorem dX11_lay_112 : decode cX11_lay 112 = .ok (.ldc_w 283, 3) := by decide +kernel
theorem dX11_lay_115 : decode cX11_lay 115 = .ok (.iastore, 1) := by decide +kernel
theorem dX11_lay_116 : decode cX11_lay 116 = .ok (.iload 4, 2) := by decide +kernel
theorem dX11_lay_118 : decode cX11_lay 118 = .ok (.aload_n 0, 1) := by decide +kernel
theorem dX11_lay_119 : decode cX11_lay 119 = .ok (.getfield 112, 3) := by decide +kernel
theorem dX11_lay_122 : decode cX11_lay 122 = .ok (.iload 5, 2) := by decide +kernel
theorem dX11_lay_124 : decode cX11_lay 124 = .ok (.iaload, 1) := by decide +kernel
theorem dX11_lay_125 : decode cX11_lay 125 = .ok (.ldc_w 283, 3) := by decide +kernel
theorem dX11_lay_128 : decode cX11_lay 128 = .ok (.if_icmp .eq 7, 3) := by decide +kernel
theorem dX11_lay_131 : decode cX11_lay 131 = .ok (.iconst 1, 1) := by decide +kernel
theorem dX11_lay_132 : decode cX11_lay 132 = .ok (.goto 4, 3) := by decide +kernel
theorem dX11_lay_135 : decode cX11_lay 135 = .ok (.iconst 0, 1) := by decide +kernel
theorem dX11_lay_136 : decode cX11_lay 136 = .ok (.iadd, 1) := by decide +kernel
theorem dX11_lay_137 : decode cX11_lay 137 = .ok (.istore 4, 2) := by decide +kernel
theorem dX11_lay_139 : decode cX11_lay 139 = .ok (.iinc 5 1, 3) := by decide +kernel
theorem dX11_lay_142 : decode cX11_lay 142 = .ok (.goto (-91), 3) := by decide +kernel
theorem dX11_lay_145 : decode cX11_lay 145 = .ok (.iload 4, 2) := by decide +kernel
theorem dX11_lay_147 : decode cX11_lay 147 = .ok (.ireturn, 1) := by decide +kernel
theorem dX11_clear_0 : decode cX11_clear 0 = .ok (.aload_n 0, 1) := by decide +kernel
theorem dX11_clear_1 : decode cX11_clear 1 = .ok (.getfield 388, 3) := by decide +kernel
theorem dX11_clear_4 : decode cX11_clear 4 = .ok (.istore_n 1, 1) := by decide +kernel
theorem dX11_clear_5 : decode cX11_clear 5 = .ok (.aload_n 0, 1) := by decide +kernel
theorem dX11_clear_6 : decode cX11_clear 6 = .ok (.iconst 0, 1) := by decide +kernel
theorem dX11_clear_7 : decode cX11_clear 7 = .ok (.putfield 388, 3) := by decide +kernel
theorem dX11_clear_10 : decode cX11_clear 10 = .ok (.iload_n 1, 1) := by decide +kernel
theorem dX11_clear_11 : decode cX11_clear 11 = .ok (.ireturn, 1) := by decide +kernel
theorem dX11_bits_0 : decode cX11_bits 0 = .ok (.iconst 0, 1) := by decide +kernel
theorem dX11_bits_1 : decode cX11_bits 1 = .ok (.istore_n 1, 1) := by decide +kernel
theorem dX11_bits_2 : decode cX11_bits 2 = .ok (.iconst 0, 1) := by decide +kernel
theorem dX11_bits_3 : decode cX11_bits 3 = .ok (.istore_n 2, 1) := by decide +kernel
theorem dX11_bits_4 : decode cX11_bits 4 = .ok (.iload_n 2, 1) := by decide +kernel
theorem dX11_bits_5 : decode cX11_bits 5 = .ok (.bipush 20, 2) := by decide +kernel
theorem dX11_bits_7 : decode cX11_bits 7 = .ok (.if_icmp .ge 17, 3) := by decide +kernel
theorem dX11_bits_10 : decode cX11_bits 10 = .ok (.iload_n 1, 1) := by decide +kernel
theorem dX11_bits_11 : decode cX11_bits 11 = .ok (.iload_n 0, 1) := by decide +kernel
theorem dX11_bits_12 : decode cX11_bits 12 = .ok (.iload_n 2, 1) := by decide +kernel
theorem dX11_bits_13 : decode cX11_bits 13 = .ok (.ishr, 1) := by decide +kernel
theorem dX11_bits_14 : decode cX11_bits 14 = .ok (.iconst 1, 1) := by decide +kernel
theorem dX11_bits_15 : decode cX11_bits 15 = .ok (.iand, 1) := by decide +kernel
theorem dX11_bits_16 : decode cX11_bits 16 = .ok (.iadd, 1) := by decide +kernel
theorem dX11_bits_17 : decode cX11_bits 17 = .ok (.istore_n 1, 1) := by decide +kernel
theorem dX11_bits_18 : decode cX11_bits 18 = .ok (.iinc 2 1, 3) := by decide +kernel
theorem dX11_bits_21 : decode cX11_bits 21 = .ok (.goto (-17), 3) := by decide +kernel
theorem dX11_bits_24 : decode cX11_bits 24 = .ok (.iload_n 1, 1) := by decide +kernel
theorem dX11_bits_25 : decode cX11_bits 25 = .ok (.ireturn, 1) := by decide +kernel
theorem dX11_curves_0 : decode cX11_curves 0 = .ok (.iconst 0, 1) := by decide +kernel
theorem dX11_curves_1 : decode cX11_curves 1 = .ok (.istore_n 3, 1) := by decide +kernel
theorem dX11_curves_2 : decode cX11_curves 2 = .ok (.iconst 0, 1) := by decide +kernel
theorem dX11_curves_3 : decode cX11_curves 3 = .ok (.istore 4, 2) := by decide +kernel
theorem dX11_curves_5 : decode cX11_curves 5 = .ok (.iload 4, 2) := by decide +kernel
theorem dX11_curves_7 : decode cX11_curves 7 = .ok (.aload_n 0, 1) := by decide +kernel
theorem dX11_curves_8 : decode cX11_curves 8 = .ok (.getfield 388, 3) := by decide +kernel
theorem dX11_curves_11 : decode cX11_curves 11 = .ok (.if_icmp .ge 30, 3) := by decide +kernel
theorem dX11_curves_14 : decode cX11_curves 14 = .ok (.iload_n 3, 1) := by decide +kernel
theorem dX11_curves_15 : decode cX11_curves 15 = .ok (.aload_n 0, 1) := by decide +kernel
theorem dX11_curves_16 : decode cX11_curves 16 = .ok (.getfield 112, 3) := by decide +kernel
theorem dX11_curves_19 : decode cX11_curves 19 = .ok (.iload 4, 2) := by decide +kernel
theorem dX11_curves_21 : decode cX11_curves 21 = .ok (.iaload, 1) := by decide +kernel
theorem dX11_curves_22 : decode cX11_curves 22 = .ok (.ldc_w 283, 3) := by decide +kernel
theorem dX11_curves_25 : decode cX11_curves 25 = .ok (.if_icmp .eq 7, 3) := by decide +kernel
theorem dX11_curves_28 : decode cX11_curves 28 = .ok (.iconst 1, 1) := by decide +kernel
theorem dX11_curves_29 : decode cX11_curves 29 = .ok (.goto 4, 3) := by decide +kernel
theorem dX11_curves_32 : decode cX11_curves 32 = .ok (.iconst 0, 1) := by decide +kernel
theorem dX11_curves_33 : decode cX11_curves 33 = .ok (.iadd, 1) := by decide +kernel
theorem dX11_curves_34 : decode cX11_curves 34 = .ok (.istore_n 3, 1) := by decide +kernel
theorem dX11_curves_35 : decode cX11_curves 35 = .ok (.iinc 4 1, 3) := by decide +kernel
theorem dX11_curves_38 : decode cX11_curves 38 = .ok (.goto (-33), 3) := by decide +kernel
theorem dX11_curves_41 : decode cX11_curves 41 = .ok (.iload_n 1, 1) := by decide +kernel
theorem dX11_curves_42 : decode cX11_curves 42 = .ok (.i2l, 1) := by decide +kernel
theorem dX11_curves_43 : decode cX11_curves 43 = .ok (.lconst 0, 1) := by decide +kernel
theorem dX11_curves_44 : decode cX11_curves 44 = .ok (.ldc2_w 393, 3) := by decide +kernel
theorem dX11_curves_47 : decode cX11_curves 47 = .ok (.invokestatic 143, 3) := by decide +kernel
theorem dX11_curves_50 : decode cX11_curves 50 = .ok (.ifCond .eq 22, 3) := by decide +kernel
theorem dX11_curves_53 : decode cX11_curves 53 = .ok (.iload_n 2, 1) := by decide +kernel
theorem dX11_curves_54 : decode cX11_curves 54 = .ok (.i2l, 1) := by decide +kernel
theorem dX11_curves_55 : decode cX11_curves 55 = .ok (.lconst 0, 1) := by decide +kernel
theorem dX11_curves_56 : decode cX11_curves 56 = .ok (.ldc2_w 395, 3) := by decide +kernel
theorem dX11_curves_59 : decode cX11_curves 59 = .ok (.invokestatic 143, 3) := by decide +kernel
theorem dX11_curves_62 : decode cX11_curves 62 = .ok (.ifCond .eq 10, 3) := by decide +kernel
theorem dX11_curves_65 : decode cX11_curves 65 = .ok (.iload_n 3, 1) := by decide +kernel
theorem dX11_curves_66 : decode cX11_curves 66 = .ok (.iload_n 1, 1) := by decide +kernel
theorem dX11_curves_67 : decode cX11_curves 67 = .ok (.iconst 1, 1) := by decide +kernel
theorem dX11_curves_68 : decode cX11_curves 68 = .ok (.iadd, 1) := by decide +kernel
theorem dX11_curves_69 : decode cX11_curves 69 = .ok (.if_icmp .ge 5, 3) := by decide +kernel
theorem dX11_curves_72 : decode cX11_curves 72 = .ok (.iconst 0, 1) := by decide +kernel
theorem dX11_curves_73 : decode cX11_curves 73 = .ok (.ireturn, 1) := by decide +kernel
theorem dX11_curves_74 : decode cX11_curves 74 = .ok (.aload_n 0, 1) := by decide +kernel
theorem dX11_curves_75 : decode cX11_curves 75 = .ok (.iconst 0, 1) := by decide +kernel
theorem dX11_curves_76 : decode cX11_curves 76 = .ok (.putfield 397, 3) := by decide +kernel
theorem dX11_curves_79 : decode cX11_curves 79 = .ok (.aload_n 0, 1) := by decide +kernel
theorem dX11_curves_80 : decode cX11_curves 80 = .ok (.iconst (-1), 1) := by decide +kernel
theorem dX11_curves_81 : decode cX11_curves 81 = .ok (.putfield 400, 3) := by decide +kernel
theorem dX11_curves_84 : decode cX11_curves 84 = .ok (.iconst 0, 1) := by decide +kernel
theorem dX11_curves_85 : decode cX11_curves 85 = .ok (.istore 4, 2) := by decide +kernel
theorem dX11_curves_87 : decode cX11_curves 87 = .ok (.iload 4, 2) := by decide +kernel
theorem dX11_curves_89 : decode cX11_curves 89 = .ok (.iload_n 1, 1) := by decide +kernel
theorem dX11_curves_90 : decode cX11_curves 90 = .ok (.if_icmp .gt 18, 3) := by decide +kernel
theorem dX11_curves_93 : decode cX11_curves 93 = .ok (.aload_n 0, 1) := by decide +kernel
theorem dX11_curves_94 : decode cX11_curves 94 = .ok (.getfield 131, 3) := by decide +kernel
theorem dX11_curves_97 : decode cX11_curves 97 = .ok (.iload 4, 2) := by decide +kernel
theorem dX11_curves_99 : decode cX11_curves 99 = .ok (.iload 4, 2) := by decide +kernel
theorem dX11_curves_101 : decode cX11_curves 101 = .ok (.iastore, 1) := by decide +kernel
theorem dX11_curves_102 : decode cX11_curves 102 = .ok (.iinc 4 1, 3) := by decide +kernel
theorem dX11_curves_105 : decode cX11_curves 105 = .ok (.goto (-18), 3) := by decide +kernel
theorem dX11_curves_108 : decode cX11_curves 108 = .ok (.iconst 1, 1) := by decide +kernel
theorem dX11_curves_109 : decode cX11_curves 109 = .ok (.istore 4, 2) := by decide +kernel
theorem dX11_curves_111 : decode cX11_curves 111 = .ok (.iload 4, 2) := by decide +kernel
theorem dX11_curves_113 : decode cX11_curves 113 = .ok (.ifCond .eq 167, 3) := by decide +kernel
theorem dX11_curves_116 : decode cX11_curves 116 = .ok (.iconst 1, 1) := by decide +kernel
theorem dX11_curves_117 : decode cX11_curves 117 = .ok (.istore 5, 2) := by decide +kernel
theorem dX11_curves_119 : decode cX11_curves 119 = .ok (.iconst 0, 1) := by decide +kernel
theorem dX11_curves_120 : decode cX11_curves 120 = .ok (.istore 6, 2) := by decide +kernel
theorem dX11_curves_122 : decode cX11_curves 122 = .ok (.iload 6, 2) := by decide +kernel
theorem dX11_curves_124 : decode cX11_curves 124 = .ok (.iload_n 1, 1) := by decide +kernel
theorem dX11_curves_125 : decode cX11_curves 125 = .ok (.if_icmp .gt 39, 3) := by decide +kernel
theorem dX11_curves_128 : decode cX11_curves 128 = .ok (.iload 5, 2) := by decide +kernel
theorem dX11_curves_130 : decode cX11_curves 130 = .ok (.ifCond .eq 25, 3) := by decide +kernel
theorem dX11_curves_133 : decode cX11_curves 133 = .ok (.aload_n 0, 1) := by decide +kernel
theorem dX11_curves_134 : decode cX11_curves 134 = .ok (.getfield 112, 3) := by decide +kernel
theorem dX11_curves_137 : decode cX11_curves 137 = .ok (.aload_n 0, 1) := by decide +kernel
theorem dX11_curves_138 : decode cX11_curves 138 = .ok (.getfield 131, 3) := by decide +kernel
theorem dX11_curves_141 : decode cX11_curves 141 = .ok (.iload 6, 2) := by decide +kernel
theorem dX11_curves_143 : decode cX11_curves 143 = .ok (.iaload, 1) := by decide +kernel
theorem dX11_curves_144 : decode cX11_curves 144 = .ok (.iaload, 1) := by decide +kernel
theorem dX11_curves_145 : decode cX11_curves 145 = .ok (.ldc_w 283, 3) := by decide +kernel
theorem dX11_curves_148 : decode cX11_curves 148 = .ok (.if_icmp .eq 7, 3) := by decide +kernel
theorem dX11_curves_151 : decode cX11_curves 151 = .ok (.iconst 1, 1) := by decide +kernel
theorem dX11_curves_152 : decode cX11_curves 152 = .ok (.goto 4, 3) := by decide +kernel
theorem dX11_curves_155 : decode cX11_curves 155 = .ok (.iconst 0, 1) := by decide +kernel
theorem dX11_curves_156 : decode cX11_curves 156 = .ok (.istore 5, 2) := by decide +kernel
theorem dX11_curves_158 : decode cX11_curves 158 = .ok (.iinc 6 1, 3) := by decide +kernel
theorem dX11_curves_161 : decode cX11_curves 161 = .ok (.goto (-39), 3) := by decide +kernel
theorem dX11_curves_164 : decode cX11_curves 164 = .ok (.iload 5, 2) := by decide +kernel
theorem dX11_curves_166 : decode cX11_curves 166 = .ok (.ifCond .eq 9, 3) := by decide +kernel
theorem dX11_curves_169 : decode cX11_curves 169 = .ok (.aload_n 0, 1) := by decide +kernel
theorem dX11_curves_170 : decode cX11_curves 170 = .ok (.iload_n 1, 1) := by decide +kernel
theorem dX11_curves_171 : decode cX11_curves 171 = .ok (.iload_n 2, 1) := by decide +kernel
theorem dX11_curves_172 : decode cX11_curves 172 = .ok (.invokevirtual 403, 3) := by decide +kernel
theorem dX11_curves_175 : decode cX11_curves 175 = .ok (.iload_n 1, 1) := by decide +kernel
theorem dX11_curves_176 : decode cX11_curves 176 = .ok (.istore 6, 2) := by decide +kernel
theorem dX11_curves_178 : decode cX11_curves 178 = .ok (.iload 6, 2) := by decide +kernel
theorem dX11_curves_180 : decode cX11_curves 180 = .ok (.ifCond .lt 30, 3) := by decide +kernel
theorem dX11_curves_183 : decode cX11_curves 183 = .ok (.aload_n 0, 1) := by decide +kernel
theorem dX11_curves_184 : decode cX11_curves 184 = .ok (.getfield 131, 3) := by decide +kernel
theorem dX11_curves_187 : decode cX11_curves 187 = .ok (.iload 6, 2) := by decide +kernel
theorem dX11_curves_189 : decode cX11_curves 189 = .ok (.iaload, 1) := by decide +kernel
theorem dX11_curves_190 : decode cX11_curves 190 = .ok (.aload_n 0, 1) := by decide +kernel
theorem dX11_curves_191 : decode cX11_curves 191 = .ok (.getfield 388, 3) := by decide +kernel
theorem dX11_curves_194 : decode cX11_curves 194 = .ok (.iconst 1, 1) := by decide +kernel
theorem dX11_curves_195 : decode cX11_curves 195 = .ok (.isub, 1) := by decide +kernel
theorem dX11_curves_196 : decode cX11_curves 196 = .ok (.iload_n 1, 1) := by decide +kernel
theorem dX11_curves_197 : decode cX11_curves 197 = .ok (.iload 6, 2) := by decide +kernel
theorem dX11_curves_199 : decode cX11_curves 199 = .ok (.isub, 1) := by decide +kernel
theorem dX11_curves_200 : decode cX11_curves 200 = .ok (.isub, 1) := by decide +kernel
theorem dX11_curves_201 : decode cX11_curves 201 = .ok (.if_icmp .ne 9, 3) := by decide +kernel
theorem dX11_curves_204 : decode cX11_curves 204 = .ok (.iinc 6 (-1), 3) := by decide +kernel
theorem dX11_curves_207 : decode cX11_curves 207 = .ok (.goto (-29), 3) := by decide +kernel
theorem dX11_curves_210 : decode cX11_curves 210 = .ok (.iload 6, 2) := by decide +kernel
theorem dX11_curves_212 : decode cX11_curves 212 = .ok (.ifCond .lt 7, 3) := by decide +kernel
theorem dX11_curves_215 : decode cX11_curves 215 = .ok (.iconst 1, 1) := by decide +kernel
theorem dX11_curves_216 : decode cX11_curves 216 = .ok (.goto 4, 3) := by decide +kernel
theorem dX11_curves_219 : decode cX11_curves 219 = .ok (.iconst 0, 1) := by decide +kernel
theorem dX11_curves_220 : decode cX11_curves 220 = .ok (.istore 4, 2) := by decide +kernel
theorem dX11_curves_222 : decode cX11_curves 222 = .ok (.iload 4, 2) := by decide +kernel
theorem dX11_curves_224 : decode cX11_curves 224 = .ok (.ifCond .ne 6, 3) := by decide +kernel
theorem dX11_curves_227 : decode cX11_curves 227 = .ok (.goto (-116), 3) := by decide +kernel
theorem dX11_curves_230 : decode cX11_curves 230 = .ok (.aload_n 0, 1) := by decide +kernel
theorem dX11_curves_231 : decode cX11_curves 231 = .ok (.getfield 131, 3) := by decide +kernel
theorem dX11_curves_234 : decode cX11_curves 234 = .ok (.iload 6, 2) := by decide +kernel
theorem dX11_curves_236 : decode cX11_curves 236 = .ok (.dup2, 1) := by decide +kernel
theorem dX11_curves_237 : decode cX11_curves 237 = .ok (.iaload, 1) := by decide +kernel
theorem dX11_curves_238 : decode cX11_curves 238 = .ok (.iconst 1, 1) := by decide +kernel
theorem dX11_curves_239 : decode cX11_curves 239 = .ok (.iadd, 1) := by decide +kernel
theorem dX11_curves_240 : decode cX11_curves 240 = .ok (.iastore, 1) := by decide +kernel
theorem dX11_curves_241 : decode cX11_curves 241 = .ok (.iload 6, 2) := by decide +kernel
theorem dX11_curves_243 : decode cX11_curves 243 = .ok (.iconst 1, 1) := by decide +kernel
theorem dX11_curves_244 : decode cX11_curves 244 = .ok (.iadd, 1) := by decide +kernel
theorem dX11_curves_245 : decode cX11_curves 245 = .ok (.istore 7, 2) := by decide +kernel
theorem dX11_curves_247 : decode cX11_curves 247 = .ok (.iload 7, 2) := by decide +kernel
theorem dX11_curves_249 : decode cX11_curves 249 = .ok (.iload_n 1, 1) := by decide +kernel
theorem dX11_curves_250 : decode cX11_curves 250 = .ok (.if_icmp .gt 27, 3) := by decide +kernel
theorem dX11_curves_253 : decode cX11_curves 253 = .ok (.aload_n 0, 1) := by decide +kernel
theorem dX11_curves_254 : decode cX11_curves 254 = .ok (.getfield 131, 3) := by decide +kernel
theorem dX11_curves_257 : decode cX11_curves 257 = .ok (.iload 7, 2) := by decide +kernel
theorem dX11_curves_259 : decode cX11_curves 259 = .ok (.aload_n 0, 1) := by decide +kernel
theorem dX11_curves_260 : decode cX11_curves 260 = .ok (.getfield 131, 3) := by decide +kernel
theorem dX11_curves_263 : decode cX11_curves 263 = .ok (.iload 7, 2) := by decide +kernel
theorem dX11_curves_265 : decode cX11_curves 265 = .ok (.iconst 1, 1) := by decide +kernel
theorem dX11_curves_266 : decode cX11_curves 266 = .ok (.isub, 1) := by decide +kernel
theorem dX11_curves_267 : decode cX11_curves 267 = .ok (.iaload, 1) := by decide +kernel
theorem dX11_curves_268 : decode cX11_curves 268 = .ok (.iconst 1, 1) := by decide +kernel
theorem dX11_curves_269 : decode cX11_curves 269 = .ok (.iadd, 1) := by decide +kernel
theorem dX11_curves_270 : decode cX11_curves 270 = .ok (.iastore, 1) := by decide +kernel
theorem dX11_curves_271 : decode cX11_curves 271 = .ok (.iinc 7 1, 3) := by decide +kernel
theorem dX11_curves_274 : decode cX11_curves 274 = .ok (.goto (-27), 3) := by decide +kernel
theorem dX11_curves_277 : decode cX11_curves 277 = .ok (.goto (-166), 3) := by decide +kernel
theorem dX11_curves_280 : decode cX11_curves 280 = .ok (.iconst 1, 1) := by decide +kernel
theorem dX11_curves_281 : decode cX11_curves 281 = .ok (.ireturn, 1) := by decide +kernel
theorem dX11_tries_0 : decode cX11_tries 0 = .ok (.lconst 1, 1) := by decide +kernel
theorem dX11_tries_1 : decode cX11_tries 1 = .ok (.lstore_n 3, 1) := by decide +kernel
theorem dX11_tries_2 : decode cX11_tries 2 = .ok (.iconst 0, 1) := by decide +kernel
theorem dX11_tries_3 : decode cX11_tries 3 = .ok (.istore 5, 2) := by decide +kernel
theorem dX11_tries_5 : decode cX11_tries 5 = .ok (.iload 5, 2) := by decide +kernel
theorem dX11_tries_7 : decode cX11_tries 7 = .ok (.iload_n 1, 1) := by decide +kernel
theorem dX11_tries_8 : decode cX11_tries 8 = .ok (.if_icmp .gt 46, 3) := by decide +kernel
theorem dX11_tries_11 : decode cX11_tries 11 = .ok (.iload 5, 2) := by decide +kernel
theorem dX11_tries_13 : decode cX11_tries 13 = .ok (.iconst 1, 1) := by decide +kernel
theorem dX11_tries_14 : decode cX11_tries 14 = .ok (.iadd, 1) := by decide +kernel
theorem dX11_tries_15 : decode cX11_tries 15 = .ok (.istore 6, 2) := by decide +kernel
theorem dX11_tries_17 : decode cX11_tries 17 = .ok (.iload 6, 2) := by decide +kernel
theorem dX11_tries_19 : decode cX11_tries 19 = .ok (.iload_n 1, 1) := by decide +kernel
theorem dX11_tries_20 : decode cX11_tries 20 = .ok (.if_icmp .gt 28, 3) := by decide +kernel
theorem dX11_tries_23 : decode cX11_tries 23 = .ok (.lload_n 3, 1) := by decide +kernel
theorem dX11_tries_24 : decode cX11_tries 24 = .ok (.aload_n 0, 1) := by decide +kernel
theorem dX11_tries_25 : decode cX11_tries 25 = .ok (.getfield 131, 3) := by decide +kernel
theorem dX11_tries_28 : decode cX11_tries 28 = .ok (.iload 6, 2) := by decide +kernel
theorem dX11_tries_30 : decode cX11_tries 30 = .ok (.iaload, 1) := by decide +kernel
theorem dX11_tries_31 : decode cX11_tries 31 = .ok (.aload_n 0, 1) := by decide +kernel
theorem dX11_tries_32 : decode cX11_tries 32 = .ok (.getfield 131, 3) := by decide +kernel
theorem dX11_tries_35 : decode cX11_tries 35 = .ok (.iload 5, 2) := by decide +kernel
theorem dX11_tries_37 : decode cX11_tries 37 = .ok (.iaload, 1) := by decide +kernel
theorem dX11_tries_38 : decode cX11_tries 38 = .ok (.isub, 1) := by decide +kernel
theorem dX11_tries_39 : decode cX11_tries 39 = .ok (.i2l, 1) := by decide +kernel
theorem dX11_tries_40 : decode cX11_tries 40 = .ok (.lmul, 1) := by decide +kernel
theorem dX11_tries_41 : decode cX11_tries 41 = .ok (.lstore_n 3, 1) := by decide +kernel
theorem dX11_tries_42 : decode cX11_tries 42 = .ok (.iinc 6 1, 3) := by decide +kernel
theorem dX11_tries_45 : decode cX11_tries 45 = .ok (.goto (-28), 3) := by decide +kernel
theorem dX11_tries_48 : decode cX11_tries 48 = .ok (.iinc 5 1, 3) := by decide +kernel
theorem dX11_tries_51 : decode cX11_tries 51 = .ok (.goto (-46), 3) := by decide +kernel
theorem dX11_tries_54 : decode cX11_tries 54 = .ok (.iconst 0, 1) := by decide +kernel
theorem dX11_tries_55 : decode cX11_tries 55 = .ok (.istore 5, 2) := by decide +kernel
theorem dX11_tries_57 : decode cX11_tries 57 = .ok (.iconst 0, 1) := by decide +kernel
theorem dX11_tries_58 : decode cX11_tries 58 = .ok (.istore 6, 2) := by decide +kernel
theorem dX11_tries_60 : decode cX11_tries 60 = .ok (.iload 6, 2) := by decide +kernel
theorem dX11_tries_62 : decode cX11_tries 62 = .ok (.aload_n 0, 1) := by decide +kernel
theorem dX11_tries_63 : decode cX11_tries 63 = .ok (.getfield 388, 3) := by decide +kernel
theorem dX11_tries_66 : decode cX11_tries 66 = .ok (.if_icmp .ge 182, 3) := by decide +kernel
theorem dX11_tries_69 : decode cX11_tries 69 = .ok (.aload_n 0, 1) := by decide +kernel
theorem dX11_tries_70 : decode cX11_tries 70 = .ok (.getfield 112, 3) := by decide +kernel
theorem dX11_tries_73 : decode cX11_tries 73 = .ok (.iload 6, 2) := by decide +kernel
theorem dX11_tries_75 : decode cX11_tries 75 = .ok (.iaload, 1) := by decide +kernel
theorem dX11_tries_76 : decode cX11_tries 76 = .ok (.ldc_w 283, 3) := by decide +kernel
theorem dX11_tries_79 : decode cX11_tries 79 = .ok (.if_icmp .ne 6, 3) := by decide +kernel
theorem dX11_tries_82 : decode cX11_tries 82 = .ok (.goto 160, 3) := by decide +kernel
theorem dX11_tries_85 : decode cX11_tries 85 = .ok (.lconst 0, 1) := by decide +kernel
theorem dX11_tries_86 : decode cX11_tries 86 = .ok (.lstore 7, 2) := by decide +kernel
theorem dX11_tries_88 : decode cX11_tries 88 = .ok (.iconst 0, 1) := by decide +kernel
theorem dX11_tries_89 : decode cX11_tries 89 = .ok (.istore 9, 2) := by decide +kernel
theorem dX11_tries_91 : decode cX11_tries 91 = .ok (.iload 9, 2) := by decide +kernel
theorem dX11_tries_93 : decode cX11_tries 93 = .ok (.iload_n 1, 1) := by decide +kernel
theorem dX11_tries_94 : decode cX11_tries 94 = .ok (.if_icmp .gt 103, 3) := by decide +kernel
theorem dX11_tries_97 : decode cX11_tries 97 = .ok (.lconst 1, 1) := by decide +kernel
theorem dX11_tries_98 : decode cX11_tries 98 = .ok (.lstore 10, 2) := by decide +kernel
theorem dX11_tries_100 : decode cX11_tries 100 = .ok (.lconst 1, 1) := by decide +kernel
theorem dX11_tries_101 : decode cX11_tries 101 = .ok (.lstore 12, 2) := by decide +kernel
theorem dX11_tries_103 : decode cX11_tries 103 = .ok (.iconst 0, 1) := by decide +kernel
theorem dX11_tries_104 : decode cX11_tries 104 = .ok (.istore 14, 2) := by decide +kernel
theorem dX11_tries_106 : decode cX11_tries 106 = .ok (.iload 14, 2) := by decide +kernel
theorem dX11_tries_108 : decode cX11_tries 108 = .ok (.iload_n 1, 1) := by decide +kernel
theorem dX11_tries_109 : decode cX11_tries 109 = .ok (.if_icmp .gt 56, 3) := by decide +kernel
theorem dX11_tries_112 : decode cX11_tries 112 = .ok (.iload 14, 2) := by decide +kernel
theorem dX11_tries_114 : decode cX11_tries 114 = .ok (.iload 9, 2) := by decide +kernel
theorem dX11_tries_116 : decode cX11_tries 116 = .ok (.if_icmp .ne 6, 3) := by decide +kernel
theorem dX11_tries_119 : decode cX11_tries 119 = .ok (.goto 40, 3) := by decide +kernel
theorem dX11_tries_122 : decode cX11_tries 122 = .ok (.lload 10, 2) := by decide +kernel
theorem dX11_tries_124 : decode cX11_tries 124 = .ok (.iload 6, 2) := by decide +kernel
theorem dX11_tries_126 : decode cX11_tries 126 = .ok (.aload_n 0, 1) := by decide +kernel
theorem dX11_tries_127 : decode cX11_tries 127 = .ok (.getfield 131, 3) := by decide +kernel
theorem dX11_tries_130 : decode cX11_tries 130 = .ok (.iload 14, 2) := by decide +kernel
theorem dX11_tries_132 : decode cX11_tries 132 = .ok (.iaload, 1) := by decide +kernel
theorem dX11_tries_133 : decode cX11_tries 133 = .ok (.isub, 1) := by decide +kernel
theorem dX11_tries_134 : decode cX11_tries 134 = .ok (.i2l, 1) := by decide +kernel
theorem dX11_tries_135 : decode cX11_tries 135 = .ok (.lmul, 1) := by decide +kernel
theorem dX11_tries_136 : decode cX11_tries 136 = .ok (.lstore 10, 2) := by decide +kernel
theorem dX11_tries_138 : decode cX11_tries 138 = .ok (.lload 12, 2) := by decide +kernel
theorem dX11_tries_140 : decode cX11_tries 140 = .ok (.aload_n 0, 1) := by decide +kernel
theorem dX11_tries_141 : decode cX11_tries 141 = .ok (.getfield 131, 3) := by decide +kernel
theorem dX11_tries_144 : decode cX11_tries 144 = .ok (.iload 9, 2) := by decide +kernel
theorem dX11_tries_146 : decode cX11_tries 146 = .ok (.iaload, 1) := by decide +kernel
theorem dX11_tries_147 : decode cX11_tries 147 = .ok (.aload_n 0, 1) := by decide +kernel
theorem dX11_tries_148 : decode cX11_tries 148 = .ok (.getfield 131, 3) := by decide +kernel
theorem dX11_tries_151 : decode cX11_tries 151 = .ok (.iload 14, 2) := by decide +kernel
theorem dX11_tries_153 : decode cX11_tries 153 = .ok (.iaload, 1) := by decide +kernel
theorem dX11_tries_154 : decode cX11_tries 154 = .ok (.isub, 1) := by decide +kernel
theorem dX11_tries_155 : decode cX11_tries 155 = .ok (.i2l, 1) := by decide +kernel
theorem dX11_tries_156 : decode cX11_tries 156 = .ok (.lmul, 1) := by decide +kernel
theorem dX11_tries_157 : decode cX11_tries 157 = .ok (.lstore 12, 2) := by decide +kernel
theorem dX11_tries_159 : decode cX11_tries 159 = .ok (.iinc 14 1, 3) := by decide +kernel
theorem dX11_tries_162 : decode cX11_tries 162 = .ok (.goto (-56), 3) := by decide +kernel
theorem dX11_tries_165 : decode cX11_tries 165 = .ok (.lload 7, 2) := by decide +kernel
theorem dX11_tries_167 : decode cX11_tries 167 = .ok (.aload_n 0, 1) := by decide +kernel
theorem dX11_tries_168 : decode cX11_tries 168 = .ok (.getfield 112, 3) := by decide +kernel
theorem dX11_tries_171 : decode cX11_tries 171 = .ok (.aload_n 0, 1) := by decide +kernel
theorem dX11_tries_172 : decode cX11_tries 172 = .ok (.getfield 131, 3) := by decide +kernel
theorem dX11_tries_175 : decode cX11_tries 175 = .ok (.iload 9, 2) := by decide +kernel
theorem dX11_tries_177 : decode cX11_tries 177 = .ok (.iaload, 1) := by decide +kernel
theorem dX11_tries_178 : decode cX11_tries 178 = .ok (.iaload, 1) := by decide +kernel
theorem dX11_tries_179 : decode cX11_tries 179 = .ok (.i2l, 1) := by decide +kernel
theorem dX11_tries_180 : decode cX11_tries 180 = .ok (.lload 10, 2) := by decide +kernel
theorem dX11_tries_182 : decode cX11_tries 182 = .ok (.lmul, 1) := by decide +kernel
theorem dX11_tries_183 : decode cX11_tries 183 = .ok (.lload_n 3, 1) := by decide +kernel
theorem dX11_tries_184 : decode cX11_tries 184 = .ok (.lload 12, 2) := by decide +kernel
theorem dX11_tries_186 : decode cX11_tries 186 = .ok (.ldiv, 1) := by decide +kernel
theorem dX11_tries_187 : decode cX11_tries 187 = .ok (.lmul, 1) := by decide +kernel
theorem dX11_tries_188 : decode cX11_tries 188 = .ok (.ladd, 1) := by decide +kernel
theorem dX11_tries_189 : decode cX11_tries 189 = .ok (.lstore 7, 2) := by decide +kernel
theorem dX11_tries_191 : decode cX11_tries 191 = .ok (.iinc 9 1, 3) := by decide +kernel
theorem dX11_tries_194 : decode cX11_tries 194 = .ok (.goto (-103), 3) := by decide +kernel
theorem dX11_tries_197 : decode cX11_tries 197 = .ok (.lload 7, 2) := by decide +kernel
theorem dX11_tries_199 : decode cX11_tries 199 = .ok (.aload_n 0, 1) := by decide +kernel
theorem dX11_tries_200 : decode cX11_tries 200 = .ok (.getfield 112, 3) := by decide +kernel
theorem dX11_tries_203 : decode cX11_tries 203 = .ok (.iload 6, 2) := by decide +kernel
theorem dX11_tries_205 : decode cX11_tries 205 = .ok (.iaload, 1) := by decide +kernel
theorem dX11_tries_206 : decode cX11_tries 206 = .ok (.i2l, 1) := by decide +kernel
theorem dX11_tries_207 : decode cX11_tries 207 = .ok (.lload_n 3, 1) := by decide +kernel
theorem dX11_tries_208 : decode cX11_tries 208 = .ok (.lmul, 1) := by decide +kernel
theorem dX11_tries_209 : decode cX11_tries 209 = .ok (.lsub, 1) := by decide +kernel
theorem dX11_tries_210 : decode cX11_tries 210 = .ok (.lstore 7, 2) := by decide +kernel
theorem dX11_tries_212 : decode cX11_tries 212 = .ok (.lload 7, 2) := by decide +kernel
theorem dX11_tries_214 : decode cX11_tries 214 = .ok (.iload_n 2, 1) := by decide +kernel
theorem dX11_tries_215 : decode cX11_tries 215 = .ok (.i2l, 1) := by decide +kernel
theorem dX11_tries_216 : decode cX11_tries 216 = .ok (.lload_n 3, 1) := by decide +kernel
theorem dX11_tries_217 : decode cX11_tries 217 = .ok (.lmul, 1) := by decide +kernel
theorem dX11_tries_218 : decode cX11_tries 218 = .ok (.lcmp, 1) := by decide +kernel
theorem dX11_tries_219 : decode cX11_tries 219 = .ok (.ifCond .gt 14, 3) := by decide +kernel
theorem dX11_tries_222 : decode cX11_tries 222 = .ok (.lload 7, 2) := by decide +kernel
theorem dX11_tries_224 : decode cX11_tries 224 = .ok (.lneg, 1) := by decide +kernel
theorem dX11_tries_225 : decode cX11_tries 225 = .ok (.iload_n 2, 1) := by decide +kernel
theorem dX11_tries_226 : decode cX11_tries 226 = .ok (.i2l, 1) := by decide +kernel
theorem dX11_tries_227 : decode cX11_tries 227 = .ok (.lload_n 3, 1) := by decide +kernel
theorem dX11_tries_228 : decode cX11_tries 228 = .ok (.lmul, 1) := by decide +kernel
theorem dX11_tries_229 : decode cX11_tries 229 = .ok (.lcmp, 1) := by decide +kernel
theorem dX11_tries_230 : decode cX11_tries 230 = .ok (.ifCond .le 12, 3) := by decide +kernel
theorem dX11_tries_233 : decode cX11_tries 233 = .ok (.iload 5, 2) := by decide +kernel
theorem dX11_tries_235 : decode cX11_tries 235 = .ok (.iconst 1, 1) := by decide +kernel
theorem dX11_tries_236 : decode cX11_tries 236 = .ok (.iload 6, 2) := by decide +kernel
theorem dX11_tries_238 : decode cX11_tries 238 = .ok (.ishl, 1) := by decide +kernel
theorem dX11_tries_239 : decode cX11_tries 239 = .ok (.ior, 1) := by decide +kernel
theorem dX11_tries_240 : decode cX11_tries 240 = .ok (.istore 5, 2) := by decide +kernel
theorem dX11_tries_242 : decode cX11_tries 242 = .ok (.iinc 6 1, 3) := by decide +kernel
theorem dX11_tries_245 : decode cX11_tries 245 = .ok (.goto (-185), 3) := by decide +kernel
theorem dX11_tries_248 : decode cX11_tries 248 = .ok (.aload_n 0, 1) := by decide +kernel
theorem dX11_tries_249 : decode cX11_tries 249 = .ok (.getfield 400, 3) := by decide +kernel
theorem dX11_tries_252 : decode cX11_tries 252 = .ok (.iconst (-1), 1) := by decide +kernel
theorem dX11_tries_253 : decode cX11_tries 253 = .ok (.if_icmp .eq 18, 3) := by decide +kernel
theorem dX11_tries_256 : decode cX11_tries 256 = .ok (.iload 5, 2) := by decide +kernel
theorem dX11_tries_258 : decode cX11_tries 258 = .ok (.invokestatic 406, 3) := by decide +kernel
theorem dX11_tries_261 : decode cX11_tries 261 = .ok (.aload_n 0, 1) := by decide +kernel
theorem dX11_tries_262 : decode cX11_tries 262 = .ok (.getfield 400, 3) := by decide +kernel
theorem dX11_tries_265 : decode cX11_tries 265 = .ok (.invokestatic 406, 3) := by decide +kernel
theorem dX11_tries_268 : decode cX11_tries 268 = .ok (.if_icmp .ge 9, 3) := by decide +kernel
theorem dX11_tries_271 : decode cX11_tries 271 = .ok (.aload_n 0, 1) := by decide +kernel
theorem dX11_tries_272 : decode cX11_tries 272 = .ok (.iload 5, 2) := by decide +kernel
theorem dX11_tries_274 : decode cX11_tries 274 = .ok (.putfield 400, 3) := by decide +kernel
theorem dX11_tries_277 : decode cX11_tries 277 = .ok (.aload_n 0, 1) := by decide +kernel
theorem dX11_tries_278 : decode cX11_tries 278 = .ok (.getfield 137, 3) := by decide +kernel
theorem dX11_tries_281 : decode cX11_tries 281 = .ok (.aload_n 0, 1) := by decide +kernel
theorem dX11_tries_282 : decode cX11_tries 282 = .ok (.getfield 397, 3) := by decide +kernel
theorem dX11_tries_285 : decode cX11_tries 285 = .ok (.iload 5, 2) := by decide +kernel
theorem dX11_tries_287 : decode cX11_tries 287 = .ok (.iastore, 1) := by decide +kernel
theorem dX11_tries_288 : decode cX11_tries 288 = .ok (.aload_n 0, 1) := by decide +kernel
theorem dX11_tries_289 : decode cX11_tries 289 = .ok (.dup, 1) := by decide +kernel
theorem dX11_tries_290 : decode cX11_tries 290 = .ok (.getfield 397, 3) := by decide +kernel
theorem dX11_tries_293 : decode cX11_tries 293 = .ok (.iconst 1, 1) := by decide +kernel
theorem dX11_tries_294 : decode cX11_tries 294 = .ok (.iadd, 1) := by decide +kernel
theorem dX11_tries_295 : decode cX11_tries 295 = .ok (.putfield 397, 3) := by decide +kernel
theorem dX11_tries_298 : decode cX11_tries 298 = .ok (.return_, 1) := by decide +kernel
theorem dX11_suspects_0 : decode cX11_suspects 0 = .ok (.aload_n 0, 1) := by decide +kernel
theorem dX11_suspects_1 : decode cX11_suspects 1 = .ok (.iload_n 1, 1) := by decide +kernel
theorem dX11_suspects_2 : decode cX11_suspects 2 = .ok (.iload_n 2, 1) := by decide +kernel
theorem dX11_suspects_3 : decode cX11_suspects 3 = .ok (.invokevirtual 409, 3) := by decide +kernel
theorem dX11_suspects_6 : decode cX11_suspects 6 = .ok (.ifCond .eq 10, 3) := by decide +kernel
theorem dX11_suspects_9 : decode cX11_suspects 9 = .ok (.aload_n 0, 1) := by decide +kernel
theorem dX11_suspects_10 : decode cX11_suspects 10 = .ok (.getfield 400, 3) := by decide +kernel
theorem dX11_suspects_13 : decode cX11_suspects 13 = .ok (.goto 4, 3) := by decide +kernel
theorem dX11_suspects_16 : decode cX11_suspects 16 = .ok (.iconst (-1), 1) := by decide +kernel
theorem dX11_suspects_17 : decode cX11_suspects 17 = .ok (.ireturn, 1) := by decide +kernel
theorem dX11_rivals_0 : decode cX11_rivals 0 = .ok (.aload_n 0, 1) := by decide +kernel
theorem dX11_rivals_1 : decode cX11_rivals 1 = .ok (.iload_n 1, 1) := by decide +kernel
theorem dX11_rivals_2 : decode cX11_rivals 2 = .ok (.iload_n 2, 1) := by decide +kernel
theorem dX11_rivals_3 : decode cX11_rivals 3 = .ok (.invokevirtual 409, 3) := by decide +kernel
theorem dX11_rivals_6 : decode cX11_rivals 6 = .ok (.ifCond .ne 5, 3) := by decide +kernel
theorem dX11_rivals_9 : decode cX11_rivals 9 = .ok (.iconst (-1), 1) := by decide +kernel
theorem dX11_rivals_10 : decode cX11_rivals 10 = .ok (.ireturn, 1) := by decide +kernel
theorem dX11_rivals_11 : decode cX11_rivals 11 = .ok (.iconst 0, 1) := by decide +kernel
theorem dX11_rivals_12 : decode cX11_rivals 12 = .ok (.istore_n 3, 1) := by decide +kernel
theorem dX11_rivals_13 : decode cX11_rivals 13 = .ok (.iconst 0, 1) := by decide +kernel
theorem dX11_rivals_14 : decode cX11_rivals 14 = .ok (.istore 4, 2) := by decide +kernel
theorem dX11_rivals_16 : decode cX11_rivals 16 = .ok (.iload 4, 2) := by decide +kernel
theorem dX11_rivals_18 : decode cX11_rivals 18 = .ok (.aload_n 0, 1) := by decide +kernel
theorem dX11_rivals_19 : decode cX11_rivals 19 = .ok (.getfield 397, 3) := by decide +kernel
theorem dX11_rivals_22 : decode cX11_rivals 22 = .ok (.if_icmp .ge 108, 3) := by decide +kernel
theorem dX11_rivals_25 : decode cX11_rivals 25 = .ok (.aload_n 0, 1) := by decide +kernel
theorem dX11_rivals_26 : decode cX11_rivals 26 = .ok (.getfield 137, 3) := by decide +kernel
theorem dX11_rivals_29 : decode cX11_rivals 29 = .ok (.iload 4, 2) := by decide +kernel
theorem dX11_rivals_31 : decode cX11_rivals 31 = .ok (.iaload, 1) := by decide +kernel
theorem dX11_rivals_32 : decode cX11_rivals 32 = .ok (.aload_n 0, 1) := by decide +kernel
theorem dX11_rivals_33 : decode cX11_rivals 33 = .ok (.getfield 400, 3) := by decide +kernel
theorem dX11_rivals_36 : decode cX11_rivals 36 = .ok (.if_icmp .eq 27, 3) := by decide +kernel
theorem dX11_rivals_39 : decode cX11_rivals 39 = .ok (.aload_n 0, 1) := by decide +kernel
theorem dX11_rivals_40 : decode cX11_rivals 40 = .ok (.getfield 137, 3) := by decide +kernel
theorem dX11_rivals_43 : decode cX11_rivals 43 = .ok (.iload 4, 2) := by decide +kernel
theorem dX11_rivals_45 : decode cX11_rivals 45 = .ok (.iaload, 1) := by decide +kernel
theorem dX11_rivals_46 : decode cX11_rivals 46 = .ok (.invokestatic 406, 3) := by decide +kernel
theorem dX11_rivals_49 : decode cX11_rivals 49 = .ok (.aload_n 0, 1) := by decide +kernel
theorem dX11_rivals_50 : decode cX11_rivals 50 = .ok (.getfield 400, 3) := by decide +kernel
theorem dX11_rivals_53 : decode cX11_rivals 53 = .ok (.invokestatic 406, 3) := by decide +kernel
theorem dX11_rivals_56 : decode cX11_rivals 56 = .ok (.if_icmp .ne 7, 3) := by decide +kernel
theorem dX11_rivals_59 : decode cX11_rivals 59 = .ok (.iconst 1, 1) := by decide +kernel
theorem dX11_rivals_60 : decode cX11_rivals 60 = .ok (.goto 4, 3) := by decide +kernel
theorem dX11_rivals_63 : decode cX11_rivals 63 = .ok (.iconst 0, 1) := by decide +kernel
theorem dX11_rivals_64 : decode cX11_rivals 64 = .ok (.istore 5, 2) := by decide +kernel
theorem dX11_rivals_66 : decode cX11_rivals 66 = .ok (.iconst 0, 1) := by decide +kernel
theorem dX11_rivals_67 : decode cX11_rivals 67 = .ok (.istore 6, 2) := by decide +kernel
theorem dX11_rivals_69 : decode cX11_rivals 69 = .ok (.iload 6, 2) := by decide +kernel
theorem dX11_rivals_71 : decode cX11_rivals 71 = .ok (.iload 4, 2) := by decide +kernel
theorem dX11_rivals_73 : decode cX11_rivals 73 = .ok (.if_icmp .ge 38, 3) := by decide +kernel
theorem dX11_rivals_76 : decode cX11_rivals 76 = .ok (.iload 5, 2) := by decide +kernel
theorem dX11_rivals_78 : decode cX11_rivals 78 = .ok (.ifCond .eq 33, 3) := by decide +kernel
theorem dX11_rivals_81 : decode cX11_rivals 81 = .ok (.aload_n 0, 1) := by decide +kernel
theorem dX11_rivals_82 : decode cX11_rivals 82 = .ok (.getfield 137, 3) := by decide +kernel
theorem dX11_rivals_85 : decode cX11_rivals 85 = .ok (.iload 6, 2) := by decide +kernel
theorem dX11_rivals_87 : decode cX11_rivals 87 = .ok (.iaload, 1) := by decide +kernel
theorem dX11_rivals_88 : decode cX11_rivals 88 = .ok (.aload_n 0, 1) := by decide +kernel
theorem dX11_rivals_89 : decode cX11_rivals 89 = .ok (.getfield 137, 3) := by decide +kernel
theorem dX11_rivals_92 : decode cX11_rivals 92 = .ok (.iload 4, 2) := by decide +kernel
theorem dX11_rivals_94 : decode cX11_rivals 94 = .ok (.iaload, 1) := by decide +kernel
theorem dX11_rivals_95 : decode cX11_rivals 95 = .ok (.if_icmp .eq 7, 3) := by decide +kernel
theorem dX11_rivals_98 : decode cX11_rivals 98 = .ok (.iconst 1, 1) := by decide +kernel
theorem dX11_rivals_99 : decode cX11_rivals 99 = .ok (.goto 4, 3) := by decide +kernel
theorem dX11_rivals_102 : decode cX11_rivals 102 = .ok (.iconst 0, 1) := by decide +kernel
theorem dX11_rivals_103 : decode cX11_rivals 103 = .ok (.istore 5, 2) := by decide +kernel
theorem dX11_rivals_105 : decode cX11_rivals 105 = .ok (.iinc 6 1, 3) := by decide +kernel
theorem dX11_rivals_108 : decode cX11_rivals 108 = .ok (.goto (-39), 3) := by decide +kernel
theorem dX11_rivals_111 : decode cX11_rivals 111 = .ok (.iload_n 3, 1) := by decide +kernel
theorem dX11_rivals_112 : decode cX11_rivals 112 = .ok (.iload 5, 2) := by decide +kernel
theorem dX11_rivals_114 : decode cX11_rivals 114 = .ok (.ifCond .eq 7, 3) := by decide +kernel
theorem dX11_rivals_117 : decode cX11_rivals 117 = .ok (.iconst 1, 1) := by decide +kernel
theorem dX11_rivals_118 : decode cX11_rivals 118 = .ok (.goto 4, 3) := by decide +kernel
theorem dX11_rivals_121 : decode cX11_rivals 121 = .ok (.iconst 0, 1) := by decide +kernel
theorem dX11_rivals_122 : decode cX11_rivals 122 = .ok (.iadd, 1) := by decide +kernel
theorem dX11_rivals_123 : decode cX11_rivals 123 = .ok (.istore_n 3, 1) := by decide +kernel
theorem dX11_rivals_124 : decode cX11_rivals 124 = .ok (.iinc 4 1, 3) := by decide +kernel
theorem dX11_rivals_127 : decode cX11_rivals 127 = .ok (.goto (-111), 3) := by decide +kernel
theorem dX11_rivals_130 : decode cX11_rivals 130 = .ok (.iload_n 3, 1) := by decide +kernel
theorem dX11_rivals_131 : decode cX11_rivals 131 = .ok (.ireturn, 1) := by decide +kernel
theorem dX11_isThere_0 : decode cX11_isThere 0 = .ok (.iload_n 1, 1) := by decide +kernel
theorem dX11_isThere_1 : decode cX11_isThere 1 = .ok (.i2l, 1) := by decide +kernel
theorem dX11_isThere_2 : decode cX11_isThere 2 = .ok (.lconst 0, 1) := by decide +kernel
theorem dX11_isThere_3 : decode cX11_isThere 3 = .ok (.aload_n 0, 1) := by decide +kernel
theorem dX11_isThere_4 : decode cX11_isThere 4 = .ok (.getfield 388, 3) := by decide +kernel
theorem dX11_isThere_7 : decode cX11_isThere 7 = .ok (.iconst 1, 1) := by decide +kernel
theorem dX11_isThere_8 : decode cX11_isThere 8 = .ok (.isub, 1) := by decide +kernel
theorem dX11_isThere_9 : decode cX11_isThere 9 = .ok (.i2l, 1) := by decide +kernel
theorem dX11_isThere_10 : decode cX11_isThere 10 = .ok (.invokestatic 143, 3) := by decide +kernel
theorem dX11_isThere_13 : decode cX11_isThere 13 = .ok (.ifCond .eq 19, 3) := by decide +kernel
theorem dX11_isThere_16 : decode cX11_isThere 16 = .ok (.aload_n 0, 1) := by decide +kernel
theorem dX11_isThere_17 : decode cX11_isThere 17 = .ok (.getfield 112, 3) := by decide +kernel
theorem dX11_isThere_20 : decode cX11_isThere 20 = .ok (.iload_n 1, 1) := by decide +kernel
theorem dX11_isThere_21 : decode cX11_isThere 21 = .ok (.iaload, 1) := by decide +kernel
theorem dX11_isThere_22 : decode cX11_isThere 22 = .ok (.ldc_w 283, 3) := by decide +kernel
theorem dX11_isThere_25 : decode cX11_isThere 25 = .ok (.if_icmp .eq 7, 3) := by decide +kernel
theorem dX11_isThere_28 : decode cX11_isThere 28 = .ok (.iconst 1, 1) := by decide +kernel
theorem dX11_isThere_29 : decode cX11_isThere 29 = .ok (.goto 4, 3) := by decide +kernel
theorem dX11_isThere_32 : decode cX11_isThere 32 = .ok (.iconst 0, 1) := by decide +kernel
theorem dX11_isThere_33 : decode cX11_isThere 33 = .ok (.ireturn, 1) := by decide +kernel
theorem dX11_middle_0 : decode cX11_middle 0 = .ok (.iload_n 1, 1) := by decide +kernel
theorem dX11_middle_1 : decode cX11_middle 1 = .ok (.i2l, 1) := by decide +kernel
theorem dX11_middle_2 : decode cX11_middle 2 = .ok (.lconst 1, 1) := by decide +kernel
theorem dX11_middle_3 : decode cX11_middle 3 = .ok (.aload_n 0, 1) := by decide +kernel
theorem dX11_middle_4 : decode cX11_middle 4 = .ok (.getfield 388, 3) := by decide +kernel
theorem dX11_middle_7 : decode cX11_middle 7 = .ok (.iconst 3, 1) := by decide +kernel
theorem dX11_middle_8 : decode cX11_middle 8 = .ok (.isub, 1) := by decide +kernel
theorem dX11_middle_9 : decode cX11_middle 9 = .ok (.i2l, 1) := by decide +kernel
theorem dX11_middle_10 : decode cX11_middle 10 = .ok (.invokestatic 143, 3) := by decide +kernel
theorem dX11_middle_13 : decode cX11_middle 13 = .ok (.ifCond .eq 68, 3) := by decide +kernel
theorem dX11_middle_16 : decode cX11_middle 16 = .ok (.iload_n 3, 1) := by decide +kernel
theorem dX11_middle_17 : decode cX11_middle 17 = .ok (.i2l, 1) := by decide +kernel
theorem dX11_middle_18 : decode cX11_middle 18 = .ok (.ldc2_w 252, 3) := by decide +kernel
theorem dX11_middle_21 : decode cX11_middle 21 = .ok (.ldc2_w 270, 3) := by decide +kernel
theorem dX11_middle_24 : decode cX11_middle 24 = .ok (.invokestatic 143, 3) := by decide +kernel
theorem dX11_middle_27 : decode cX11_middle 27 = .ok (.ifCond .eq 54, 3) := by decide +kernel
theorem dX11_middle_30 : decode cX11_middle 30 = .ok (.iload_n 2, 1) := by decide +kernel
theorem dX11_middle_31 : decode cX11_middle 31 = .ok (.i2l, 1) := by decide +kernel
theorem dX11_middle_32 : decode cX11_middle 32 = .ok (.lconst 1, 1) := by decide +kernel
theorem dX11_middle_33 : decode cX11_middle 33 = .ok (.iload_n 3, 1) := by decide +kernel
theorem dX11_middle_34 : decode cX11_middle 34 = .ok (.iconst 1, 1) := by decide +kernel
theorem dX11_middle_35 : decode cX11_middle 35 = .ok (.isub, 1) := by decide +kernel
theorem dX11_middle_36 : decode cX11_middle 36 = .ok (.i2l, 1) := by decide +kernel
theorem dX11_middle_37 : decode cX11_middle 37 = .ok (.invokestatic 143, 3) := by decide +kernel
theorem dX11_middle_40 : decode cX11_middle 40 = .ok (.ifCond .eq 41, 3) := by decide +kernel
theorem dX11_middle_43 : decode cX11_middle 43 = .ok (.aload_n 0, 1) := by decide +kernel
theorem dX11_middle_44 : decode cX11_middle 44 = .ok (.iload_n 1, 1) := by decide +kernel
theorem dX11_middle_45 : decode cX11_middle 45 = .ok (.iconst 1, 1) := by decide +kernel
theorem dX11_middle_46 : decode cX11_middle 46 = .ok (.isub, 1) := by decide +kernel
theorem dX11_middle_47 : decode cX11_middle 47 = .ok (.invokevirtual 412, 3) := by decide +kernel
theorem dX11_middle_50 : decode cX11_middle 50 = .ok (.ifCond .eq 31, 3) := by decide +kernel
theorem dX11_middle_53 : decode cX11_middle 53 = .ok (.aload_n 0, 1) := by decide +kernel
theorem dX11_middle_54 : decode cX11_middle 54 = .ok (.iload_n 1, 1) := by decide +kernel
theorem dX11_middle_55 : decode cX11_middle 55 = .ok (.invokevirtual 412, 3) := by decide +kernel
theorem dX11_middle_58 : decode cX11_middle 58 = .ok (.ifCond .eq 23, 3) := by decide +kernel
theorem dX11_middle_61 : decode cX11_middle 61 = .ok (.aload_n 0, 1) := by decide +kernel
theorem dX11_middle_62 : decode cX11_middle 62 = .ok (.iload_n 1, 1) := by decide +kernel
theorem dX11_middle_63 : decode cX11_middle 63 = .ok (.iconst 1, 1) := by decide +kernel
theorem dX11_middle_64 : decode cX11_middle 64 = .ok (.iadd, 1) := by decide +kernel
theorem dX11_middle_65 : decode cX11_middle 65 = .ok (.invokevirtual 412, 3) := by decide +kernel
theorem dX11_middle_68 : decode cX11_middle 68 = .ok (.ifCond .eq 13, 3) := by decide +kernel
theorem dX11_middle_71 : decode cX11_middle 71 = .ok (.aload_n 0, 1) := by decide +kernel
theorem dX11_middle_72 : decode cX11_middle 72 = .ok (.iload_n 1, 1) := by decide +kernel
theorem dX11_middle_73 : decode cX11_middle 73 = .ok (.iconst 2, 1) := by decide +kernel
theorem dX11_middle_74 : decode cX11_middle 74 = .ok (.iadd, 1) := by decide +kernel
theorem dX11_middle_75 : decode cX11_middle 75 = .ok (.invokevirtual 412, 3) := by decide +kernel
theorem dX11_middle_78 : decode cX11_middle 78 = .ok (.ifCond .ne 7, 3) := by decide +kernel
theorem dX11_middle_81 : decode cX11_middle 81 = .ok (.ldc_w 283, 3) := by decide +kernel
theorem dX11_middle_84 : decode cX11_middle 84 = .ok (.ireturn, 1) := by decide +kernel
theorem dX11_middle_85 : decode cX11_middle 85 = .ok (.iload_n 2, 1) := by decide +kernel
theorem dX11_middle_86 : decode cX11_middle 86 = .ok (.i2l, 1) := by decide +kernel
theorem dX11_middle_87 : decode cX11_middle 87 = .ok (.lstore 4, 2) := by decide +kernel
theorem dX11_middle_89 : decode cX11_middle 89 = .ok (.iload_n 3, 1) := by decide +kernel
theorem dX11_middle_90 : decode cX11_middle 90 = .ok (.i2l, 1) := by decide +kernel
theorem dX11_middle_91 : decode cX11_middle 91 = .ok (.lstore 6, 2) := by decide +kernel
theorem dX11_middle_93 : decode cX11_middle 93 = .ok (.aload_n 0, 1) := by decide +kernel
theorem dX11_middle_94 : decode cX11_middle 94 = .ok (.getfield 112, 3) := by decide +kernel
theorem dX11_middle_97 : decode cX11_middle 97 = .ok (.iload_n 1, 1) := by decide +kernel
theorem dX11_middle_98 : decode cX11_middle 98 = .ok (.iconst 1, 1) := by decide +kernel
theorem dX11_middle_99 : decode cX11_middle 99 = .ok (.isub, 1) := by decide +kernel
theorem dX11_middle_100 : decode cX11_middle 100 = .ok (.iaload, 1) := by decide +kernel
theorem dX11_middle_101 : decode cX11_middle 101 = .ok (.ineg, 1) := by decide +kernel
theorem dX11_middle_102 : decode cX11_middle 102 = .ok (.i2l, 1) := by decide +kernel
theorem dX11_middle_103 : decode cX11_middle 103 = .ok (.lload 4, 2) := by decide +kernel
theorem dX11_middle_105 : decode cX11_middle 105 = .ok (.lmul, 1) := by decide +kernel
theorem dX11_middle_106 : decode cX11_middle 106 = .ok (.lload 4, 2) := by decide +kernel
theorem dX11_middle_108 : decode cX11_middle 108 = .ok (.lload 6, 2) := by decide +kernel
theorem dX11_middle_110 : decode cX11_middle 110 = .ok (.lsub, 1) := by decide +kernel
theorem dX11_middle_111 : decode cX11_middle 111 = .ok (.lmul, 1) := by decide +kernel
theorem dX11_middle_112 : decode cX11_middle 112 = .ok (.lload 4, 2) := by decide +kernel
theorem dX11_middle_114 : decode cX11_middle 114 = .ok (.ldc2_w 252, 3) := by decide +kernel
theorem dX11_middle_117 : decode cX11_middle 117 = .ok (.lload 6, 2) := by decide +kernel
theorem dX11_middle_119 : decode cX11_middle 119 = .ok (.lmul, 1) := by decide +kernel
theorem dX11_middle_120 : decode cX11_middle 120 = .ok (.lsub, 1) := by decide +kernel
theorem dX11_middle_121 : decode cX11_middle 121 = .ok (.lmul, 1) := by decide +kernel
theorem dX11_middle_122 : decode cX11_middle 122 = .ok (.ldc2_w 393, 3) := by decide +kernel
theorem dX11_middle_125 : decode cX11_middle 125 = .ok (.aload_n 0, 1) := by decide +kernel
theorem dX11_middle_126 : decode cX11_middle 126 = .ok (.getfield 112, 3) := by decide +kernel
theorem dX11_middle_129 : decode cX11_middle 129 = .ok (.iload_n 1, 1) := by decide +kernel
theorem dX11_middle_130 : decode cX11_middle 130 = .ok (.iaload, 1) := by decide +kernel
theorem dX11_middle_131 : decode cX11_middle 131 = .ok (.i2l, 1) := by decide +kernel
theorem dX11_middle_132 : decode cX11_middle 132 = .ok (.lmul, 1) := by decide +kernel
theorem dX11_middle_133 : decode cX11_middle 133 = .ok (.lload 4, 2) := by decide +kernel
theorem dX11_middle_135 : decode cX11_middle 135 = .ok (.lload 6, 2) := by decide +kernel
theorem dX11_middle_137 : decode cX11_middle 137 = .ok (.ladd, 1) := by decide +kernel
theorem dX11_middle_138 : decode cX11_middle 138 = .ok (.lmul, 1) := by decide +kernel
theorem dX11_middle_139 : decode cX11_middle 139 = .ok (.lload 4, 2) := by decide +kernel
theorem dX11_middle_141 : decode cX11_middle 141 = .ok (.lload 6, 2) := by decide +kernel
theorem dX11_middle_143 : decode cX11_middle 143 = .ok (.lsub, 1) := by decide +kernel
theorem dX11_middle_144 : decode cX11_middle 144 = .ok (.lmul, 1) := by decide +kernel
theorem dX11_middle_145 : decode cX11_middle 145 = .ok (.lload 4, 2) := by decide +kernel
theorem dX11_middle_147 : decode cX11_middle 147 = .ok (.ldc2_w 252, 3) := by decide +kernel
theorem dX11_middle_150 : decode cX11_middle 150 = .ok (.lload 6, 2) := by decide +kernel
theorem dX11_middle_152 : decode cX11_middle 152 = .ok (.lmul, 1) := by decide +kernel
theorem dX11_middle_153 : decode cX11_middle 153 = .ok (.lsub, 1) := by decide +kernel
theorem dX11_middle_154 : decode cX11_middle 154 = .ok (.lmul, 1) := by decide +kernel
theorem dX11_middle_155 : decode cX11_middle 155 = .ok (.ladd, 1) := by decide +kernel
theorem dX11_middle_156 : decode cX11_middle 156 = .ok (.ldc2_w 393, 3) := by decide +kernel
theorem dX11_middle_159 : decode cX11_middle 159 = .ok (.aload_n 0, 1) := by decide +kernel
theorem dX11_middle_160 : decode cX11_middle 160 = .ok (.getfield 112, 3) := by decide +kernel
theorem dX11_middle_163 : decode cX11_middle 163 = .ok (.iload_n 1, 1) := by decide +kernel
theorem dX11_middle_164 : decode cX11_middle 164 = .ok (.iconst 1, 1) := by decide +kernel
theorem dX11_middle_165 : decode cX11_middle 165 = .ok (.iadd, 1) := by decide +kernel
theorem dX11_middle_166 : decode cX11_middle 166 = .ok (.iaload, 1) := by decide +kernel
theorem dX11_middle_167 : decode cX11_middle 167 = .ok (.i2l, 1) := by decide +kernel
theorem dX11_middle_168 : decode cX11_middle 168 = .ok (.lmul, 1) := by decide +kernel
theorem dX11_middle_169 : decode cX11_middle 169 = .ok (.lload 4, 2) := by decide +kernel
theorem dX11_middle_171 : decode cX11_middle 171 = .ok (.lload 6, 2) := by decide +kernel
theorem dX11_middle_173 : decode cX11_middle 173 = .ok (.ladd, 1) := by decide +kernel
theorem dX11_middle_174 : decode cX11_middle 174 = .ok (.lmul, 1) := by decide +kernel
theorem dX11_middle_175 : decode cX11_middle 175 = .ok (.lload 4, 2) := by decide +kernel
theorem dX11_middle_177 : decode cX11_middle 177 = .ok (.lmul, 1) := by decide +kernel
theorem dX11_middle_178 : decode cX11_middle 178 = .ok (.lload 4, 2) := by decide +kernel
theorem dX11_middle_180 : decode cX11_middle 180 = .ok (.ldc2_w 252, 3) := by decide +kernel
theorem dX11_middle_183 : decode cX11_middle 183 = .ok (.lload 6, 2) := by decide +kernel
theorem dX11_middle_185 : decode cX11_middle 185 = .ok (.lmul, 1) := by decide +kernel
theorem dX11_middle_186 : decode cX11_middle 186 = .ok (.lsub, 1) := by decide +kernel
theorem dX11_middle_187 : decode cX11_middle 187 = .ok (.lmul, 1) := by decide +kernel
theorem dX11_middle_188 : decode cX11_middle 188 = .ok (.lsub, 1) := by decide +kernel
theorem dX11_middle_189 : decode cX11_middle 189 = .ok (.aload_n 0, 1) := by decide +kernel
theorem dX11_middle_190 : decode cX11_middle 190 = .ok (.getfield 112, 3) := by decide +kernel
theorem dX11_middle_193 : decode cX11_middle 193 = .ok (.iload_n 1, 1) := by decide +kernel
theorem dX11_middle_194 : decode cX11_middle 194 = .ok (.iconst 2, 1) := by decide +kernel
theorem dX11_middle_195 : decode cX11_middle 195 = .ok (.iadd, 1) := by decide +kernel
theorem dX11_middle_196 : decode cX11_middle 196 = .ok (.iaload, 1) := by decide +kernel
theorem dX11_middle_197 : decode cX11_middle 197 = .ok (.i2l, 1) := by decide +kernel
theorem dX11_middle_198 : decode cX11_middle 198 = .ok (.lload 4, 2) := by decide +kernel
theorem dX11_middle_200 : decode cX11_middle 200 = .ok (.lload 6, 2) := by decide +kernel
theorem dX11_middle_202 : decode cX11_middle 202 = .ok (.ladd, 1) := by decide +kernel
theorem dX11_middle_203 : decode cX11_middle 203 = .ok (.lmul, 1) := by decide +kernel
theorem dX11_middle_204 : decode cX11_middle 204 = .ok (.lload 4, 2) := by decide +kernel
theorem dX11_middle_206 : decode cX11_middle 206 = .ok (.lmul, 1) := by decide +kernel
theorem dX11_middle_207 : decode cX11_middle 207 = .ok (.lload 4, 2) := by decide +kernel
theorem dX11_middle_209 : decode cX11_middle 209 = .ok (.lload 6, 2) := by decide +kernel
theorem dX11_middle_211 : decode cX11_middle 211 = .ok (.lsub, 1) := by decide +kernel
theorem dX11_middle_212 : decode cX11_middle 212 = .ok (.lmul, 1) := by decide +kernel
theorem dX11_middle_213 : decode cX11_middle 213 = .ok (.ladd, 1) := by decide +kernel
theorem dX11_middle_214 : decode cX11_middle 214 = .ok (.lstore 8, 2) := by decide +kernel
theorem dX11_middle_216 : decode cX11_middle 216 = .ok (.lload 8, 2) := by decide +kernel
theorem dX11_middle_218 : decode cX11_middle 218 = .ok (.ldc2_w 376, 3) := by decide +kernel
theorem dX11_middle_221 : decode cX11_middle 221 = .ok (.lload 6, 2) := by decide +kernel
theorem dX11_middle_223 : decode cX11_middle 223 = .ok (.lmul, 1) := by decide +kernel
theorem dX11_middle_224 : decode cX11_middle 224 = .ok (.lload 6, 2) := by decide +kernel
theorem dX11_middle_226 : decode cX11_middle 226 = .ok (.lmul, 1) := by decide +kernel
theorem dX11_middle_227 : decode cX11_middle 227 = .ok (.lload 6, 2) := by decide +kernel
theorem dX11_middle_229 : decode cX11_middle 229 = .ok (.lmul, 1) := by decide +kernel
theorem dX11_middle_230 : decode cX11_middle 230 = .ok (.invokestatic 303, 3) := by decide +kernel
theorem dX11_middle_233 : decode cX11_middle 233 = .ok (.l2i, 1) := by decide +kernel
theorem dX11_middle_234 : decode cX11_middle 234 = .ok (.ireturn, 1) := by decide +kernel
theorem dX11_fourth_0 : decode cX11_fourth 0 = .ok (.iconst 0, 1) := by decide +kernel
theorem dX11_fourth_1 : decode cX11_fourth 1 = .ok (.istore_n 2, 1) := by decide +kernel
theorem dX11_fourth_2 : decode cX11_fourth 2 = .ok (.iload_n 2, 1) := by decide +kernel
theorem dX11_fourth_3 : decode cX11_fourth 3 = .ok (.iconst 5, 1) := by decide +kernel
theorem dX11_fourth_4 : decode cX11_fourth 4 = .ok (.if_icmp .ge 21, 3) := by decide +kernel
theorem dX11_fourth_7 : decode cX11_fourth 7 = .ok (.aload_n 0, 1) := by decide +kernel
theorem dX11_fourth_8 : decode cX11_fourth 8 = .ok (.iload_n 1, 1) := by decide +kernel
theorem dX11_fourth_9 : decode cX11_fourth 9 = .ok (.iload_n 2, 1) := by decide +kernel
theorem dX11_fourth_10 : decode cX11_fourth 10 = .ok (.iadd, 1) := by decide +kernel
theorem dX11_fourth_11 : decode cX11_fourth 11 = .ok (.invokevirtual 412, 3) := by decide +kernel
theorem dX11_fourth_14 : decode cX11_fourth 14 = .ok (.ifCond .ne 5, 3) := by decide +kernel
theorem dX11_fourth_17 : decode cX11_fourth 17 = .ok (.iconst (-1), 1) := by decide +kernel
theorem dX11_fourth_18 : decode cX11_fourth 18 = .ok (.ireturn, 1) := by decide +kernel
theorem dX11_fourth_19 : decode cX11_fourth 19 = .ok (.iinc 2 1, 3) := by decide +kernel
theorem dX11_fourth_22 : decode cX11_fourth 22 = .ok (.goto (-20), 3) := by decide +kernel
theorem dX11_fourth_25 : decode cX11_fourth 25 = .ok (.aload_n 0, 1) := by decide +kernel
theorem dX11_fourth_26 : decode cX11_fourth 26 = .ok (.getfield 112, 3) := by decide +kernel
theorem dX11_fourth_29 : decode cX11_fourth 29 = .ok (.iload_n 1, 1) := by decide +kernel
theorem dX11_fourth_30 : decode cX11_fourth 30 = .ok (.iaload, 1) := by decide +kernel
theorem dX11_fourth_31 : decode cX11_fourth 31 = .ok (.iconst 4, 1) := by decide +kernel
theorem dX11_fourth_32 : decode cX11_fourth 32 = .ok (.aload_n 0, 1) := by decide +kernel
theorem dX11_fourth_33 : decode cX11_fourth 33 = .ok (.getfield 112, 3) := by decide +kernel
theorem dX11_fourth_36 : decode cX11_fourth 36 = .ok (.iload_n 1, 1) := by decide +kernel
theorem dX11_fourth_37 : decode cX11_fourth 37 = .ok (.iconst 1, 1) := by decide +kernel
theorem dX11_fourth_38 : decode cX11_fourth 38 = .ok (.iadd, 1) := by decide +kernel
theorem dX11_fourth_39 : decode cX11_fourth 39 = .ok (.iaload, 1) := by decide +kernel
theorem dX11_fourth_40 : decode cX11_fourth 40 = .ok (.imul, 1) := by decide +kernel
theorem dX11_fourth_41 : decode cX11_fourth 41 = .ok (.isub, 1) := by decide +kernel
theorem dX11_fourth_42 : decode cX11_fourth 42 = .ok (.bipush 6, 2) := by decide +kernel
theorem dX11_fourth_44 : decode cX11_fourth 44 = .ok (.aload_n 0, 1) := by decide +kernel
theorem dX11_fourth_45 : decode cX11_fourth 45 = .ok (.getfield 112, 3) := by decide +kernel
theorem dX11_fourth_48 : decode cX11_fourth 48 = .ok (.iload_n 1, 1) := by decide +kernel
theorem dX11_fourth_49 : decode cX11_fourth 49 = .ok (.iconst 2, 1) := by decide +kernel
theorem dX11_fourth_50 : decode cX11_fourth 50 = .ok (.iadd, 1) := by decide +kernel
theorem dX11_fourth_51 : decode cX11_fourth 51 = .ok (.iaload, 1) := by decide +kernel
theorem dX11_fourth_52 : decode cX11_fourth 52 = .ok (.imul, 1) := by decide +kernel
theorem dX11_fourth_53 : decode cX11_fourth 53 = .ok (.iadd, 1) := by decide +kernel
theorem dX11_fourth_54 : decode cX11_fourth 54 = .ok (.iconst 4, 1) := by decide +kernel
theorem dX11_fourth_55 : decode cX11_fourth 55 = .ok (.aload_n 0, 1) := by decide +kernel
theorem dX11_fourth_56 : decode cX11_fourth 56 = .ok (.getfield 112, 3) := by decide +kernel
theorem dX11_fourth_59 : decode cX11_fourth 59 = .ok (.iload_n 1, 1) := by decide +kernel
theorem dX11_fourth_60 : decode cX11_fourth 60 = .ok (.iconst 3, 1) := by decide +kernel
theorem dX11_fourth_61 : decode cX11_fourth 61 = .ok (.iadd, 1) := by decide +kernel
theorem dX11_fourth_62 : decode cX11_fourth 62 = .ok (.iaload, 1) := by decide +kernel
theorem dX11_fourth_63 : decode cX11_fourth 63 = .ok (.imul, 1) := by decide +kernel
theorem dX11_fourth_64 : decode cX11_fourth 64 = .ok (.isub, 1) := by decide +kernel
theorem dX11_fourth_65 : decode cX11_fourth 65 = .ok (.aload_n 0, 1) := by decide +kernel
theorem dX11_fourth_66 : decode cX11_fourth 66 = .ok (.getfield 112, 3) := by decide +kernel
theorem dX11_fourth_69 : decode cX11_fourth 69 = .ok (.iload_n 1, 1) := by decide +kernel
theorem dX11_fourth_70 : decode cX11_fourth 70 = .ok (.iconst 4, 1) := by decide +kernel
theorem dX11_fourth_71 : decode cX11_fourth 71 = .ok (.iadd, 1) := by decide +kernel
theorem dX11_fourth_72 : decode cX11_fourth 72 = .ok (.iaload, 1) := by decide +kernel
theorem dX11_fourth_73 : decode cX11_fourth 73 = .ok (.iadd, 1) := by decide +kernel
theorem dX11_fourth_74 : decode cX11_fourth 74 = .ok (.istore_n 2, 1) := by decide +kernel
theorem dX11_fourth_75 : decode cX11_fourth 75 = .ok (.iload_n 2, 1) := by decide +kernel
theorem dX11_fourth_76 : decode cX11_fourth 76 = .ok (.ifCond .ge 8, 3) := by decide +kernel
theorem dX11_fourth_79 : decode cX11_fourth 79 = .ok (.iload_n 2, 1) := by decide +kernel
theorem dX11_fourth_80 : decode cX11_fourth 80 = .ok (.ineg, 1) := by decide +kernel
theorem dX11_fourth_81 : decode cX11_fourth 81 = .ok (.goto 4, 3) := by decide +kernel
theorem dX11_fourth_84 : decode cX11_fourth 84 = .ok (.iload_n 2, 1) := by decide +kernel
theorem dX11_fourth_85 : decode cX11_fourth 85 = .ok (.ireturn, 1) := by decide +kernel
theorem dX11_bound_0 : decode cX11_bound 0 = .ok (.iload_n 1, 1) := by decide +kernel
theorem dX11_bound_1 : decode cX11_bound 1 = .ok (.i2l, 1) := by decide +kernel
theorem dX11_bound_2 : decode cX11_bound 2 = .ok (.lconst 0, 1) := by decide +kernel
theorem dX11_bound_3 : decode cX11_bound 3 = .ok (.aload_n 0, 1) := by decide +kernel
theorem dX11_bound_4 : decode cX11_bound 4 = .ok (.getfield 388, 3) := by decide +kernel
theorem dX11_bound_7 : decode cX11_bound 7 = .ok (.iconst 1, 1) := by decide +kernel
theorem dX11_bound_8 : decode cX11_bound 8 = .ok (.isub, 1) := by decide +kernel
theorem dX11_bound_9 : decode cX11_bound 9 = .ok (.i2l, 1) := by decide +kernel
theorem dX11_bound_10 : decode cX11_bound 10 = .ok (.invokestatic 143, 3) := by decide +kernel
theorem dX11_bound_13 : decode cX11_bound 13 = .ok (.ifCond .ne 5, 3) := by decide +kernel
theorem dX11_bound_16 : decode cX11_bound 16 = .ok (.iconst (-1), 1) := by decide +kernel
theorem dX11_bound_17 : decode cX11_bound 17 = .ok (.ireturn, 1) := by decide +kernel
theorem dX11_bound_18 : decode cX11_bound 18 = .ok (.aload_n 0, 1) := by decide +kernel
theorem dX11_bound_19 : decode cX11_bound 19 = .ok (.iload_n 1, 1) := by decide +kernel
theorem dX11_bound_20 : decode cX11_bound 20 = .ok (.iconst 2, 1) := by decide +kernel
theorem dX11_bound_21 : decode cX11_bound 21 = .ok (.isub, 1) := by decide +kernel
theorem dX11_bound_22 : decode cX11_bound 22 = .ok (.invokevirtual 415, 3) := by decide +kernel
theorem dX11_bound_25 : decode cX11_bound 25 = .ok (.istore_n 2, 1) := by decide +kernel
theorem dX11_bound_26 : decode cX11_bound 26 = .ok (.aload_n 0, 1) := by decide +kernel
theorem dX11_bound_27 : decode cX11_bound 27 = .ok (.iload_n 1, 1) := by decide +kernel
theorem dX11_bound_28 : decode cX11_bound 28 = .ok (.iconst 1, 1) := by decide +kernel
theorem dX11_bound_29 : decode cX11_bound 29 = .ok (.isub, 1) := by decide +kernel
theorem dX11_bound_30 : decode cX11_bound 30 = .ok (.invokevirtual 415, 3) := by decide +kernel
theorem dX11_bound_33 : decode cX11_bound 33 = .ok (.istore_n 3, 1) := by decide +kernel
theorem dX11_bound_34 : decode cX11_bound 34 = .ok (.iload_n 2, 1) := by decide +kernel
theorem dX11_bound_35 : decode cX11_bound 35 = .ok (.iload_n 3, 1) := by decide +kernel
theorem dX11_bound_36 : decode cX11_bound 36 = .ok (.if_icmp .le 7, 3) := by decide +kernel
theorem dX11_bound_39 : decode cX11_bound 39 = .ok (.iload_n 2, 1) := by decide +kernel
theorem dX11_bound_40 : decode cX11_bound 40 = .ok (.goto 4, 3) := by decide +kernel
theorem dX11_bound_43 : decode cX11_bound 43 = .ok (.iload_n 3, 1) := by decide +kernel
theorem dX11_bound_44 : decode cX11_bound 44 = .ok (.istore 4, 2) := by decide +kernel
theorem dX11_bound_46 : decode cX11_bound 46 = .ok (.iload 4, 2) := by decide +kernel
theorem dX11_bound_48 : decode cX11_bound 48 = .ok (.iconst (-1), 1) := by decide +kernel
theorem dX11_bound_49 : decode cX11_bound 49 = .ok (.if_icmp .ne 7, 3) := by decide +kernel
theorem dX11_bound_52 : decode cX11_bound 52 = .ok (.iconst (-1), 1) := by decide +kernel
theorem dX11_bound_53 : decode cX11_bound 53 = .ok (.goto 14, 3) := by decide +kernel
theorem dX11_bound_56 : decode cX11_bound 56 = .ok (.iconst 3, 1) := by decide +kernel
theorem dX11_bound_57 : decode cX11_bound 57 = .ok (.iload 4, 2) := by decide +kernel
theorem dX11_bound_59 : decode cX11_bound 59 = .ok (.imul, 1) := by decide +kernel
theorem dX11_bound_60 : decode cX11_bound 60 = .ok (.bipush 127, 2) := by decide +kernel
theorem dX11_bound_62 : decode cX11_bound 62 = .ok (.iadd, 1) := by decide +kernel
theorem dX11_bound_63 : decode cX11_bound 63 = .ok (.sipush 128, 3) := by decide +kernel
theorem dX11_bound_66 : decode cX11_bound 66 = .ok (.idiv, 1) := by decide +kernel
theorem dX11_bound_67 : decode cX11_bound 67 = .ok (.ireturn, 1) := by decide +kernel
theorem dX11_set_0 : decode cX11_set 0 = .ok (.aload_n 0, 1) := by decide +kernel
theorem dX11_set_1 : decode cX11_set 1 = .ok (.iload_n 1, 1) := by decide +kernel
theorem dX11_set_2 : decode cX11_set 2 = .ok (.invokevirtual 310, 3) := by decide +kernel
theorem dX11_set_5 : decode cX11_set 5 = .ok (.ifCond .eq 12, 3) := by decide +kernel
theorem dX11_set_8 : decode cX11_set 8 = .ok (.aload_n 0, 1) := by decide +kernel
theorem dX11_set_9 : decode cX11_set 9 = .ok (.getfield 68, 3) := by decide +kernel
theorem dX11_set_12 : decode cX11_set 12 = .ok (.iload_n 1, 1) := by decide +kernel
theorem dX11_set_13 : decode cX11_set 13 = .ok (.baload, 1) := by decide +kernel
theorem dX11_set_14 : decode cX11_set 14 = .ok (.ifCond .eq 5, 3) := by decide +kernel
theorem dX11_set_17 : decode cX11_set 17 = .ok (.iconst (-1), 1) := by decide +kernel
theorem dX11_set_18 : decode cX11_set 18 = .ok (.ireturn, 1) := by decide +kernel
theorem dX11_set_19 : decode cX11_set 19 = .ok (.iconst 0, 1) := by decide +kernel
theorem dX11_set_20 : decode cX11_set 20 = .ok (.istore_n 2, 1) := by decide +kernel
theorem dX11_set_21 : decode cX11_set 21 = .ok (.iconst 0, 1) := by decide +kernel
theorem dX11_set_22 : decode cX11_set 22 = .ok (.istore_n 3, 1) := by decide +kernel
theorem dX11_set_23 : decode cX11_set 23 = .ok (.iload_n 3, 1) := by decide +kernel
theorem dX11_set_24 : decode cX11_set 24 = .ok (.aload_n 0, 1) := by decide +kernel
theorem dX11_set_25 : decode cX11_set 25 = .ok (.getfield 32, 3) := by decide +kernel
theorem dX11_set_28 : decode cX11_set 28 = .ok (.iload_n 1, 1) := by decide +kernel
theorem dX11_set_29 : decode cX11_set 29 = .ok (.iaload, 1) := by decide +kernel
theorem dX11_set_30 : decode cX11_set 30 = .ok (.if_icmp .ge 45, 3) := by decide +kernel
theorem dX11_set_33 : decode cX11_set 33 = .ok (.aload_n 0, 1) := by decide +kernel
theorem dX11_set_34 : decode cX11_set 34 = .ok (.getfield 35, 3) := by decide +kernel
theorem dX11_set_37 : decode cX11_set 37 = .ok (.iload_n 1, 1) := by decide +kernel
theorem dX11_set_38 : decode cX11_set 38 = .ok (.iload_n 3, 1) := by decide +kernel
theorem dX11_set_39 : decode cX11_set 39 = .ok (.invokestatic 316, 3) := by decide +kernel
theorem dX11_set_42 : decode cX11_set 42 = .ok (.iaload, 1) := by decide +kernel
theorem dX11_set_43 : decode cX11_set 43 = .ok (.ldc_w 283, 3) := by decide +kernel
theorem dX11_set_46 : decode cX11_set 46 = .ok (.if_icmp .ne 6, 3) := by decide +kernel
theorem dX11_set_49 : decode cX11_set 49 = .ok (.goto 20, 3) := by decide +kernel
theorem dX11_set_52 : decode cX11_set 52 = .ok (.aload_n 0, 1) := by decide +kernel
theorem dX11_set_53 : decode cX11_set 53 = .ok (.iload_n 1, 1) := by decide +kernel
theorem dX11_set_54 : decode cX11_set 54 = .ok (.iload_n 3, 1) := by decide +kernel
theorem dX11_set_55 : decode cX11_set 55 = .ok (.invokestatic 316, 3) := by decide +kernel
theorem dX11_set_58 : decode cX11_set 58 = .ok (.invokevirtual 332, 3) := by decide +kernel
theorem dX11_set_61 : decode cX11_set 61 = .ok (.ifCond .ne 5, 3) := by decide +kernel
theorem dX11_set_64 : decode cX11_set 64 = .ok (.iconst (-1), 1) := by decide +kernel
theorem dX11_set_65 : decode cX11_set 65 = .ok (.ireturn, 1) := by decide +kernel
theorem dX11_set_66 : decode cX11_set 66 = .ok (.iinc 2 1, 3) := by decide +kernel
theorem dX11_set_69 : decode cX11_set 69 = .ok (.iinc 3 1, 3) := by decide +kernel
theorem dX11_set_72 : decode cX11_set 72 = .ok (.goto (-49), 3) := by decide +kernel
theorem dX11_set_75 : decode cX11_set 75 = .ok (.aload_n 0, 1) := by decide +kernel
theorem dX11_set_76 : decode cX11_set 76 = .ok (.getfield 68, 3) := by decide +kernel
theorem dX11_set_79 : decode cX11_set 79 = .ok (.iload_n 1, 1) := by decide +kernel
theorem dX11_set_80 : decode cX11_set 80 = .ok (.iconst 1, 1) := by decide +kernel
theorem dX11_set_81 : decode cX11_set 81 = .ok (.bastore, 1) := by decide +kernel
theorem dX11_set_82 : decode cX11_set 82 = .ok (.iload_n 2, 1) := by decide +kernel
theorem dX11_set_83 : decode cX11_set 83 = .ok (.ireturn, 1) := by decide +kernel
theorem dX11_hard_0 : decode cX11_hard 0 = .ok (.iload_n 1, 1) := by decide +kernel
theorem dX11_hard_1 : decode cX11_hard 1 = .ok (.i2l, 1) := by decide +kernel
theorem dX11_hard_2 : decode cX11_hard 2 = .ok (.ldc2_w 270, 3) := by decide +kernel
theorem dX11_hard_5 : decode cX11_hard 5 = .ok (.ldc2_w 418, 3) := by decide +kernel
theorem dX11_hard_8 : decode cX11_hard 8 = .ok (.invokestatic 143, 3) := by decide +kernel
theorem dX11_hard_11 : decode cX11_hard 11 = .ok (.ifCond .ne 5, 3) := by decide +kernel
theorem dX11_hard_14 : decode cX11_hard 14 = .ok (.iconst 0, 1) := by decide +kernel
theorem dX11_hard_15 : decode cX11_hard 15 = .ok (.ireturn, 1) := by decide +kernel
theorem dX11_hard_16 : decode cX11_hard 16 = .ok (.aload_n 0, 1) := by decide +kernel
theorem dX11_hard_17 : decode cX11_hard 17 = .ok (.iload_n 1, 1) := by decide +kernel
theorem dX11_hard_18 : decode cX11_hard 18 = .ok (.putfield 72, 3) := by decide +kernel
theorem dX11_hard_21 : decode cX11_hard 21 = .ok (.iconst 1, 1) := by decide +kernel
theorem dX11_hard_22 : decode cX11_hard 22 = .ok (.ireturn, 1) := by decide +kernel
theorem dX11_isSetTable_0 : decode cX11_isSetTable 0 = .ok (.aload_n 0, 1) := by decide +kernel
theorem dX11_isSetTable_1 : decode cX11_isSetTable 1 = .ok (.iload_n 1, 1) := by decide +kernel
theorem dX11_isSetTable_2 : decode cX11_isSetTable 2 = .ok (.invokevirtual 310, 3) := by decide +kernel
theorem dX11_isSetTable_5 : decode cX11_isSetTable 5 = .ok (.ifCond .eq 16, 3) := by decide +kernel
theorem dX11_isSetTable_8 : decode cX11_isSetTable 8 = .ok (.aload_n 0, 1) := by decide +kernel
theorem dX11_isSetTable_9 : decode cX11_isSetTable 9 = .ok (.getfield 68, 3) := by decide +kernel
theorem dX11_isSetTable_12 : decode cX11_isSetTable 12 = .ok (.iload_n 1, 1) := by decide +kernel
theorem dX11_isSetTable_13 : decode cX11_isSetTable 13 = .ok (.baload, 1) := by decide +kernel
theorem dX11_isSetTable_14 : decode cX11_isSetTable 14 = .ok (.ifCond .eq 7, 3) := by decide +kernel
theorem dX11_isSetTable_17 : decode cX11_isSetTable 17 = .ok (.iconst 1, 1) := by decide +kernel
theorem dX11_isSetTable_18 : decode cX11_isSetTable 18 = .ok (.goto 4, 3) := by decide +kernel
theorem dX11_isSetTable_21 : decode cX11_isSetTable 21 = .ok (.iconst 0, 1) := by decide +kernel
theorem dX11_isSetTable_22 : decode cX11_isSetTable 22 = .ok (.ireturn, 1) := by decide +kernel
theorem dX11_isFigure_0 : decode cX11_isFigure 0 = .ok (.aload_n 0, 1) := by decide +kernel
theorem dX11_isFigure_1 : decode cX11_isFigure 1 = .ok (.iload_n 1, 1) := by decide +kernel
theorem dX11_isFigure_2 : decode cX11_isFigure 2 = .ok (.invokevirtual 420, 3) := by decide +kernel
theorem dX11_isFigure_5 : decode cX11_isFigure 5 = .ok (.ifCond .eq 28, 3) := by decide +kernel
theorem dX11_isFigure_8 : decode cX11_isFigure 8 = .ok (.aload_n 0, 1) := by decide +kernel
theorem dX11_isFigure_9 : decode cX11_isFigure 9 = .ok (.iload_n 1, 1) := by decide +kernel
theorem dX11_isFigure_10 : decode cX11_isFigure 10 = .ok (.iload_n 2, 1) := by decide +kernel
theorem dX11_isFigure_11 : decode cX11_isFigure 11 = .ok (.invokevirtual 313, 3) := by decide +kernel
theorem dX11_isFigure_14 : decode cX11_isFigure 14 = .ok (.ifCond .eq 19, 3) := by decide +kernel
theorem dX11_isFigure_17 : decode cX11_isFigure 17 = .ok (.aload_n 0, 1) := by decide +kernel
theorem dX11_isFigure_18 : decode cX11_isFigure 18 = .ok (.iload_n 1, 1) := by decide +kernel
theorem dX11_isFigure_19 : decode cX11_isFigure 19 = .ok (.iload_n 2, 1) := by decide +kernel
theorem dX11_isFigure_20 : decode cX11_isFigure 20 = .ok (.invokestatic 316, 3) := by decide +kernel
theorem dX11_isFigure_23 : decode cX11_isFigure 23 = .ok (.invokevirtual 332, 3) := by decide +kernel
theorem dX11_isFigure_26 : decode cX11_isFigure 26 = .ok (.ifCond .eq 7, 3) := by decide +kernel
theorem dX11_isFigure_29 : decode cX11_isFigure 29 = .ok (.iconst 1, 1) := by decide +kernel
theorem dX11_isFigure_30 : decode cX11_isFigure 30 = .ok (.goto 4, 3) := by decide +kernel
theorem dX11_isFigure_33 : decode cX11_isFigure 33 = .ok (.iconst 0, 1) := by decide +kernel
theorem dX11_isFigure_34 : decode cX11_isFigure 34 = .ok (.ireturn, 1) := by decide +kernel
theorem dX11_print_0 : decode cX11_print 0 = .ok (.aload_n 0, 1) := by decide +kernel
theorem dX11_print_1 : decode cX11_print 1 = .ok (.iload_n 1, 1) := by decide +kernel
theorem dX11_print_2 : decode cX11_print 2 = .ok (.invokevirtual 420, 3) := by decide +kernel
theorem dX11_print_5 : decode cX11_print 5 = .ok (.ifCond .eq 29, 3) := by decide +kernel
theorem dX11_print_8 : decode cX11_print 8 = .ok (.iload_n 2, 1) := by decide +kernel
theorem dX11_print_9 : decode cX11_print 9 = .ok (.i2l, 1) := by decide +kernel
theorem dX11_print_10 : decode cX11_print 10 = .ok (.lconst 1, 1) := by decide +kernel
theorem dX11_print_11 : decode cX11_print 11 = .ok (.ldc2_w 418, 3) := by decide +kernel
theorem dX11_print_14 : decode cX11_print 14 = .ok (.invokestatic 143, 3) := by decide +kernel
theorem dX11_print_17 : decode cX11_print 17 = .ok (.ifCond .eq 17, 3) := by decide +kernel
theorem dX11_print_20 : decode cX11_print 20 = .ok (.aload_n 0, 1) := by decide +kernel
theorem dX11_print_21 : decode cX11_print 21 = .ok (.getfield 76, 3) := by decide +kernel
theorem dX11_print_24 : decode cX11_print 24 = .ok (.iload_n 1, 1) := by decide +kernel
theorem dX11_print_25 : decode cX11_print 25 = .ok (.iaload, 1) := by decide +kernel
theorem dX11_print_26 : decode cX11_print 26 = .ok (.iload_n 2, 1) := by decide +kernel
theorem dX11_print_27 : decode cX11_print 27 = .ok (.iadd, 1) := by decide +kernel
theorem dX11_print_28 : decode cX11_print 28 = .ok (.ldc_w 423, 3) := by decide +kernel
theorem dX11_print_31 : decode cX11_print 31 = .ok (.if_icmp .le 5, 3) := by decide +kernel
theorem dX11_print_34 : decode cX11_print 34 = .ok (.iconst (-1), 1) := by decide +kernel
theorem dX11_print_35 : decode cX11_print 35 = .ok (.ireturn, 1) := by decide +kernel
theorem dX11_print_36 : decode cX11_print 36 = .ok (.aload_n 0, 1) := by decide +kernel
theorem dX11_print_37 : decode cX11_print 37 = .ok (.getfield 76, 3) := by decide +kernel
theorem dX11_print_40 : decode cX11_print 40 = .ok (.iload_n 1, 1) := by decide +kernel
theorem dX11_print_41 : decode cX11_print 41 = .ok (.dup2, 1) := by decide +kernel
theorem dX11_print_42 : decode cX11_print 42 = .ok (.iaload, 1) := by decide +kernel
theorem dX11_print_43 : decode cX11_print 43 = .ok (.iload_n 2, 1) := by decide +kernel
theorem dX11_print_44 : decode cX11_print 44 = .ok (.iadd, 1) := by decide +kernel
theorem dX11_print_45 : decode cX11_print 45 = .ok (.iastore, 1) := by decide +kernel
theorem dX11_print_46 : decode cX11_print 46 = .ok (.iconst 0, 1) := by decide +kernel
theorem dX11_print_47 : decode cX11_print 47 = .ok (.istore_n 3, 1) := by decide +kernel
theorem dX11_print_48 : decode cX11_print 48 = .ok (.iload_n 3, 1) := by decide +kernel
theorem dX11_print_49 : decode cX11_print 49 = .ok (.iload_n 2, 1) := by decide +kernel
theorem dX11_print_50 : decode cX11_print 50 = .ok (.if_icmp .ge 77, 3) := by decide +kernel
theorem dX11_print_53 : decode cX11_print 53 = .ok (.aload_n 0, 1) := by decide +kernel
theorem dX11_print_54 : decode cX11_print 54 = .ok (.getfield 79, 3) := by decide +kernel
theorem dX11_print_57 : decode cX11_print 57 = .ok (.iload_n 1, 1) := by decide +kernel
theorem dX11_print_58 : decode cX11_print 58 = .ok (.dup2, 1) := by decide +kernel
theorem dX11_print_59 : decode cX11_print 59 = .ok (.iaload, 1) := by decide +kernel
theorem dX11_print_60 : decode cX11_print 60 = .ok (.iconst 1, 1) := by decide +kernel
theorem dX11_print_61 : decode cX11_print 61 = .ok (.iadd, 1) := by decide +kernel
theorem dX11_print_62 : decode cX11_print 62 = .ok (.iastore, 1) := by decide +kernel
theorem dX11_print_63 : decode cX11_print 63 = .ok (.aload_n 0, 1) := by decide +kernel
theorem dX11_print_64 : decode cX11_print 64 = .ok (.getfield 79, 3) := by decide +kernel
theorem dX11_print_67 : decode cX11_print 67 = .ok (.iload_n 1, 1) := by decide +kernel
theorem dX11_print_68 : decode cX11_print 68 = .ok (.iaload, 1) := by decide +kernel
theorem dX11_print_69 : decode cX11_print 69 = .ok (.aload_n 0, 1) := by decide +kernel
theorem dX11_print_70 : decode cX11_print 70 = .ok (.getfield 72, 3) := by decide +kernel
theorem dX11_print_73 : decode cX11_print 73 = .ok (.if_icmp .ge 6, 3) := by decide +kernel
theorem dX11_print_76 : decode cX11_print 76 = .ok (.goto 45, 3) := by decide +kernel
theorem dX11_print_79 : decode cX11_print 79 = .ok (.aload_n 0, 1) := by decide +kernel
theorem dX11_print_80 : decode cX11_print 80 = .ok (.getfield 79, 3) := by decide +kernel
theorem dX11_print_83 : decode cX11_print 83 = .ok (.iload_n 1, 1) := by decide +kernel
theorem dX11_print_84 : decode cX11_print 84 = .ok (.iconst 0, 1) := by decide +kernel
theorem dX11_print_85 : decode cX11_print 85 = .ok (.iastore, 1) := by decide +kernel
theorem dX11_print_86 : decode cX11_print 86 = .ok (.iconst 0, 1) := by decide +kernel
theorem dX11_print_87 : decode cX11_print 87 = .ok (.istore 4, 2) := by decide +kernel
theorem dX11_print_89 : decode cX11_print 89 = .ok (.iload 4, 2) := by decide +kernel
theorem dX11_print_91 : decode cX11_print 91 = .ok (.aload_n 0, 1) := by decide +kernel
theorem dX11_print_92 : decode cX11_print 92 = .ok (.getfield 32, 3) := by decide +kernel
theorem dX11_print_95 : decode cX11_print 95 = .ok (.iload_n 1, 1) := by decide +kernel
theorem dX11_print_96 : decode cX11_print 96 = .ok (.iaload, 1) := by decide +kernel
theorem dX11_print_97 : decode cX11_print 97 = .ok (.if_icmp .ge 24, 3) := by decide +kernel
theorem dX11_print_100 : decode cX11_print 100 = .ok (.aload_n 0, 1) := by decide +kernel
theorem dX11_print_101 : decode cX11_print 101 = .ok (.getfield 82, 3) := by decide +kernel
theorem dX11_print_104 : decode cX11_print 104 = .ok (.iload_n 1, 1) := by decide +kernel
theorem dX11_print_105 : decode cX11_print 105 = .ok (.iload 4, 2) := by decide +kernel
theorem dX11_print_107 : decode cX11_print 107 = .ok (.invokestatic 316, 3) := by decide +kernel
theorem dX11_print_110 : decode cX11_print 110 = .ok (.dup2, 1) := by decide +kernel
theorem dX11_print_111 : decode cX11_print 111 = .ok (.iaload, 1) := by decide +kernel
theorem dX11_print_112 : decode cX11_print 112 = .ok (.iconst 1, 1) := by decide +kernel
theorem dX11_print_113 : decode cX11_print 113 = .ok (.iadd, 1) := by decide +kernel
theorem dX11_print_114 : decode cX11_print 114 = .ok (.iastore, 1) := by decide +kernel
theorem dX11_print_115 : decode cX11_print 115 = .ok (.iinc 4 1, 3) := by decide +kernel
theorem dX11_print_118 : decode cX11_print 118 = .ok (.goto (-29), 3) := by decide +kernel
theorem dX11_print_121 : decode cX11_print 121 = .ok (.iinc 3 1, 3) := by decide +kernel
theorem dX11_print_124 : decode cX11_print 124 = .ok (.goto (-76), 3) := by decide +kernel
theorem dX11_print_127 : decode cX11_print 127 = .ok (.aload_n 0, 1) := by decide +kernel
theorem dX11_print_128 : decode cX11_print 128 = .ok (.getfield 76, 3) := by decide +kernel
theorem dX11_print_131 : decode cX11_print 131 = .ok (.iload_n 1, 1) := by decide +kernel
theorem dX11_print_132 : decode cX11_print 132 = .ok (.iaload, 1) := by decide +kernel
theorem dX11_print_133 : decode cX11_print 133 = .ok (.ireturn, 1) := by decide +kernel
theorem dX11_mend_0 : decode cX11_mend 0 = .ok (.aload_n 0, 1) := by decide +kernel
theorem dX11_mend_1 : decode cX11_mend 1 = .ok (.iload_n 1, 1) := by decide +kernel
theorem dX11_mend_2 : decode cX11_mend 2 = .ok (.iload_n 2, 1) := by decide +kernel
theorem dX11_mend_3 : decode cX11_mend 3 = .ok (.invokevirtual 424, 3) := by decide +kernel
theorem dX11_mend_6 : decode cX11_mend 6 = .ok (.ifCond .ne 5, 3) := by decide +kernel
theorem dX11_mend_9 : decode cX11_mend 9 = .ok (.iconst 0, 1) := by decide +kernel
theorem dX11_mend_10 : decode cX11_mend 10 = .ok (.ireturn, 1) := by decide +kernel
theorem dX11_mend_11 : decode cX11_mend 11 = .ok (.aload_n 0, 1) := by decide +kernel
theorem dX11_mend_12 : decode cX11_mend 12 = .ok (.getfield 82, 3) := by decide +kernel
theorem dX11_mend_15 : decode cX11_mend 15 = .ok (.iload_n 1, 1) := by decide +kernel
theorem dX11_mend_16 : decode cX11_mend 16 = .ok (.iload_n 2, 1) := by decide +kernel
theorem dX11_mend_17 : decode cX11_mend 17 = .ok (.invokestatic 316, 3) := by decide +kernel
theorem dX11_mend_20 : decode cX11_mend 20 = .ok (.iconst 0, 1) := by decide +kernel
theorem dX11_mend_21 : decode cX11_mend 21 = .ok (.iastore, 1) := by decide +kernel
theorem dX11_mend_22 : decode cX11_mend 22 = .ok (.iconst 1, 1) := by decide +kernel
theorem dX11_mend_23 : decode cX11_mend 23 = .ok (.ireturn, 1) := by decide +kernel
theorem dX11_readAs_0 : decode cX11_readAs 0 = .ok (.iload_n 0, 1) := by decide +kernel
theorem dX11_readAs_1 : decode cX11_readAs 1 = .ok (.iconst 3, 1) := by decide +kernel
theorem dX11_readAs_2 : decode cX11_readAs 2 = .ok (.if_icmp .ne 11, 3) := by decide +kernel
theorem dX11_readAs_5 : decode cX11_readAs 5 = .ok (.iload_n 1, 1) := by decide +kernel
theorem dX11_readAs_6 : decode cX11_readAs 6 = .ok (.iconst 4, 1) := by decide +kernel
theorem dX11_readAs_7 : decode cX11_readAs 7 = .ok (.if_icmp .lt 6, 3) := by decide +kernel
theorem dX11_readAs_10 : decode cX11_readAs 10 = .ok (.bipush 8, 2) := by decide +kernel
theorem dX11_readAs_12 : decode cX11_readAs 12 = .ok (.ireturn, 1) := by decide +kernel
theorem dX11_readAs_13 : decode cX11_readAs 13 = .ok (.iload_n 0, 1) := by decide +kernel
theorem dX11_readAs_14 : decode cX11_readAs 14 = .ok (.bipush 8, 2) := by decide +kernel
theorem dX11_readAs_16 : decode cX11_readAs 16 = .ok (.if_icmp .ne 11, 3) := by decide +kernel
theorem dX11_readAs_19 : decode cX11_readAs 19 = .ok (.iload_n 1, 1) := by decide +kernel
theorem dX11_readAs_20 : decode cX11_readAs 20 = .ok (.bipush 7, 2) := by decide +kernel
theorem dX11_readAs_22 : decode cX11_readAs 22 = .ok (.if_icmp .lt 5, 3) := by decide +kernel
theorem dX11_readAs_25 : decode cX11_readAs 25 = .ok (.iconst 3, 1) := by decide +kernel
theorem dX11_readAs_26 : decode cX11_readAs 26 = .ok (.ireturn, 1) := by decide +kernel
theorem dX11_readAs_27 : decode cX11_readAs 27 = .ok (.iload_n 0, 1) := by decide +kernel
theorem dX11_readAs_28 : decode cX11_readAs 28 = .ok (.iconst 1, 1) := by decide +kernel
theorem dX11_readAs_29 : decode cX11_readAs 29 = .ok (.if_icmp .ne 11, 3) := by decide +kernel
theorem dX11_readAs_32 : decode cX11_readAs 32 = .ok (.iload_n 1, 1) := by decide +kernel
theorem dX11_readAs_33 : decode cX11_readAs 33 = .ok (.iconst 5, 1) := by decide +kernel
theorem dX11_readAs_34 : decode cX11_readAs 34 = .ok (.if_icmp .lt 6, 3) := by decide +kernel
theorem dX11_readAs_37 : decode cX11_readAs 37 = .ok (.bipush 7, 2) := by decide +kernel
theorem dX11_readAs_39 : decode cX11_readAs 39 = .ok (.ireturn, 1) := by decide +kernel
theorem dX11_readAs_40 : decode cX11_readAs 40 = .ok (.iload_n 0, 1) := by decide +kernel
theorem dX11_readAs_41 : decode cX11_readAs 41 = .ok (.bipush 6, 2) := by decide +kernel
theorem dX11_readAs_43 : decode cX11_readAs 43 = .ok (.if_icmp .ne 13, 3) := by decide +kernel
theorem dX11_readAs_46 : decode cX11_readAs 46 = .ok (.iload_n 1, 1) := by decide +kernel
theorem dX11_readAs_47 : decode cX11_readAs 47 = .ok (.bipush 6, 2) := by decide +kernel
theorem dX11_readAs_49 : decode cX11_readAs 49 = .ok (.if_icmp .lt 7, 3) := by decide +kernel
theorem dX11_readAs_52 : decode cX11_readAs 52 = .ok (.iconst 5, 1) := by decide +kernel
theorem dX11_readAs_53 : decode cX11_readAs 53 = .ok (.goto 4, 3) := by decide +kernel
theorem dX11_readAs_56 : decode cX11_readAs 56 = .ok (.iload_n 0, 1) := by decide +kernel
theorem dX11_readAs_57 : decode cX11_readAs 57 = .ok (.ireturn, 1) := by decide +kernel
theorem dX11_read_0 : decode cX11_read 0 = .ok (.aload_n 0, 1) := by decide +kernel
theorem dX11_read_1 : decode cX11_read 1 = .ok (.iload_n 1, 1) := by decide +kernel
theorem dX11_read_2 : decode cX11_read 2 = .ok (.iload_n 2, 1) := by decide +kernel
theorem dX11_read_3 : decode cX11_read 3 = .ok (.invokevirtual 424, 3) := by decide +kernel
theorem dX11_read_6 : decode cX11_read 6 = .ok (.ifCond .ne 7, 3) := by decide +kernel
theorem dX11_read_9 : decode cX11_read 9 = .ok (.ldc_w 283, 3) := by decide +kernel
theorem dX11_read_12 : decode cX11_read 12 = .ok (.ireturn, 1) := by decide +kernel
theorem dX11_read_13 : decode cX11_read 13 = .ok (.iload_n 1, 1) := by decide +kernel
theorem dX11_read_14 : decode cX11_read 14 = .ok (.iload_n 2, 1) := by decide +kernel
theorem dX11_read_15 : decode cX11_read 15 = .ok (.invokestatic 316, 3) := by decide +kernel
theorem dX11_read_18 : decode cX11_read 18 = .ok (.istore_n 3, 1) := by decide +kernel
theorem dX11_read_19 : decode cX11_read 19 = .ok (.aload_n 0, 1) := by decide +kernel
theorem dX11_read_20 : decode cX11_read 20 = .ok (.getfield 53, 3) := by decide +kernel
theorem dX11_read_23 : decode cX11_read 23 = .ok (.iload_n 3, 1) := by decide +kernel
theorem dX11_read_24 : decode cX11_read 24 = .ok (.iaload, 1) := by decide +kernel
theorem dX11_read_25 : decode cX11_read 25 = .ok (.ifCond .ge 13, 3) := by decide +kernel
theorem dX11_read_28 : decode cX11_read 28 = .ok (.aload_n 0, 1) := by decide +kernel
theorem dX11_read_29 : decode cX11_read 29 = .ok (.getfield 53, 3) := by decide +kernel
theorem dX11_read_32 : decode cX11_read 32 = .ok (.iload_n 3, 1) := by decide +kernel
theorem dX11_read_33 : decode cX11_read 33 = .ok (.iaload, 1) := by decide +kernel
theorem dX11_read_34 : decode cX11_read 34 = .ok (.ineg, 1) := by decide +kernel
theorem dX11_read_35 : decode cX11_read 35 = .ok (.goto 9, 3) := by decide +kernel
theorem dX11_read_38 : decode cX11_read 38 = .ok (.aload_n 0, 1) := by decide +kernel
theorem dX11_read_39 : decode cX11_read 39 = .ok (.getfield 53, 3) := by decide +kernel
theorem dX11_read_42 : decode cX11_read 42 = .ok (.iload_n 3, 1) := by decide +kernel
theorem dX11_read_43 : decode cX11_read 43 = .ok (.iaload, 1) := by decide +kernel
theorem dX11_read_44 : decode cX11_read 44 = .ok (.istore 4, 2) := by decide +kernel
theorem dX11_read_46 : decode cX11_read 46 = .ok (.iconst 0, 1) := by decide +kernel
theorem dX11_read_47 : decode cX11_read 47 = .ok (.istore 5, 2) := by decide +kernel
theorem dX11_read_49 : decode cX11_read 49 = .ok (.iconst 1, 1) := by decide +kernel
theorem dX11_read_50 : decode cX11_read 50 = .ok (.istore 6, 2) := by decide +kernel
theorem dX11_read_52 : decode cX11_read 52 = .ok (.iload 4, 2) := by decide +kernel
theorem dX11_read_54 : decode cX11_read 54 = .ok (.ifCond .le 42, 3) := by decide +kernel
theorem dX11_read_57 : decode cX11_read 57 = .ok (.iload 5, 2) := by decide +kernel
theorem dX11_read_59 : decode cX11_read 59 = .ok (.iload 4, 2) := by decide +kernel
theorem dX11_read_61 : decode cX11_read 61 = .ok (.bipush 10, 2) := by decide +kernel
theorem dX11_read_63 : decode cX11_read 63 = .ok (.irem, 1) := by decide +kernel
theorem dX11_read_64 : decode cX11_read 64 = .ok (.aload_n 0, 1) := by decide +kernel
theorem dX11_read_65 : decode cX11_read 65 = .ok (.getfield 82, 3) := by decide +kernel
theorem dX11_read_68 : decode cX11_read 68 = .ok (.iload_n 3, 1) := by decide +kernel
theorem dX11_read_69 : decode cX11_read 69 = .ok (.iaload, 1) := by decide +kernel
theorem dX11_read_70 : decode cX11_read 70 = .ok (.invokestatic 427, 3) := by decide +kernel
theorem dX11_read_73 : decode cX11_read 73 = .ok (.iload 6, 2) := by decide +kernel
theorem dX11_read_75 : decode cX11_read 75 = .ok (.imul, 1) := by decide +kernel
theorem dX11_read_76 : decode cX11_read 76 = .ok (.iadd, 1) := by decide +kernel
theorem dX11_read_77 : decode cX11_read 77 = .ok (.istore 5, 2) := by decide +kernel
theorem dX11_read_79 : decode cX11_read 79 = .ok (.iload 6, 2) := by decide +kernel
theorem dX11_read_81 : decode cX11_read 81 = .ok (.bipush 10, 2) := by decide +kernel
theorem dX11_read_83 : decode cX11_read 83 = .ok (.imul, 1) := by decide +kernel
theorem dX11_read_84 : decode cX11_read 84 = .ok (.istore 6, 2) := by decide +kernel
theorem dX11_read_86 : decode cX11_read 86 = .ok (.iload 4, 2) := by decide +kernel
theorem dX11_read_88 : decode cX11_read 88 = .ok (.bipush 10, 2) := by decide +kernel
theorem dX11_read_90 : decode cX11_read 90 = .ok (.idiv, 1) := by decide +kernel
theorem dX11_read_91 : decode cX11_read 91 = .ok (.istore 4, 2) := by decide +kernel
theorem dX11_read_93 : decode cX11_read 93 = .ok (.goto (-41), 3) := by decide +kernel
theorem dX11_read_96 : decode cX11_read 96 = .ok (.aload_n 0, 1) := by decide +kernel
theorem dX11_read_97 : decode cX11_read 97 = .ok (.getfield 53, 3) := by decide +kernel
theorem dX11_read_100 : decode cX11_read 100 = .ok (.iload_n 3, 1) := by decide +kernel
theorem dX11_read_101 : decode cX11_read 101 = .ok (.iaload, 1) := by decide +kernel
theorem dX11_read_102 : decode cX11_read 102 = .ok (.ifCond .ge 9, 3) := by decide +kernel
theorem dX11_read_105 : decode cX11_read 105 = .ok (.iload 5, 2) := by decide +kernel
theorem dX11_read_107 : decode cX11_read 107 = .ok (.ineg, 1) := by decide +kernel
theorem dX11_read_108 : decode cX11_read 108 = .ok (.goto 5, 3) := by decide +kernel
theorem dX11_read_111 : decode cX11_read 111 = .ok (.iload 5, 2) := by decide +kernel
theorem dX11_read_113 : decode cX11_read 113 = .ok (.ireturn, 1) := by decide +kernel
theorem dX11_erratum_0 : decode cX11_erratum 0 = .ok (.aload_n 0, 1) := by decide +kernel
theorem dX11_erratum_1 : decode cX11_erratum 1 = .ok (.iload_n 1, 1) := by decide +kernel
theorem dX11_erratum_2 : decode cX11_erratum 2 = .ok (.iload_n 2, 1) := by decide +kernel
theorem dX11_erratum_3 : decode cX11_erratum 3 = .ok (.invokevirtual 424, 3) := by decide +kernel
theorem dX11_erratum_6 : decode cX11_erratum 6 = .ok (.ifCond .eq 41, 3) := by decide +kernel
theorem dX11_erratum_9 : decode cX11_erratum 9 = .ok (.iload_n 3, 1) := by decide +kernel
theorem dX11_erratum_10 : decode cX11_erratum 10 = .ok (.i2l, 1) := by decide +kernel
theorem dX11_erratum_11 : decode cX11_erratum 11 = .ok (.ldc2_w 306, 3) := by decide +kernel
theorem dX11_erratum_14 : decode cX11_erratum 14 = .ok (.ldc2_w 308, 3) := by decide +kernel
theorem dX11_erratum_17 : decode cX11_erratum 17 = .ok (.invokestatic 143, 3) := by decide +kernel
theorem dX11_erratum_20 : decode cX11_erratum 20 = .ok (.ifCond .eq 27, 3) := by decide +kernel
theorem dX11_erratum_23 : decode cX11_erratum 23 = .ok (.iload 4, 2) := by decide +kernel
theorem dX11_erratum_25 : decode cX11_erratum 25 = .ok (.i2l, 1) := by decide +kernel
theorem dX11_erratum_26 : decode cX11_erratum 26 = .ok (.ldc2_w 306, 3) := by decide +kernel
theorem dX11_erratum_29 : decode cX11_erratum 29 = .ok (.ldc2_w 308, 3) := by decide +kernel
theorem dX11_erratum_32 : decode cX11_erratum 32 = .ok (.invokestatic 143, 3) := by decide +kernel
theorem dX11_erratum_35 : decode cX11_erratum 35 = .ok (.ifCond .eq 12, 3) := by decide +kernel
theorem dX11_erratum_38 : decode cX11_erratum 38 = .ok (.aload_n 0, 1) := by decide +kernel
theorem dX11_erratum_39 : decode cX11_erratum 39 = .ok (.getfield 430, 3) := by decide +kernel
theorem dX11_erratum_42 : decode cX11_erratum 42 = .ok (.bipush 40, 2) := by decide +kernel
theorem dX11_erratum_44 : decode cX11_erratum 44 = .ok (.if_icmp .ne 5, 3) := by decide +kernel
theorem dX11_erratum_47 : decode cX11_erratum 47 = .ok (.iconst (-1), 1) := by decide +kernel
theorem dX11_erratum_48 : decode cX11_erratum 48 = .ok (.ireturn, 1) := by decide +kernel
theorem dX11_erratum_49 : decode cX11_erratum 49 = .ok (.aload_n 0, 1) := by decide +kernel
theorem dX11_erratum_50 : decode cX11_erratum 50 = .ok (.getfield 85, 3) := by decide +kernel
theorem dX11_erratum_53 : decode cX11_erratum 53 = .ok (.aload_n 0, 1) := by decide +kernel
theorem dX11_erratum_54 : decode cX11_erratum 54 = .ok (.getfield 430, 3) := by decide +kernel
theorem dX11_erratum_57 : decode cX11_erratum 57 = .ok (.iload_n 1, 1) := by decide +kernel
theorem dX11_erratum_58 : decode cX11_erratum 58 = .ok (.iload_n 2, 1) := by decide +kernel
theorem dX11_erratum_59 : decode cX11_erratum 59 = .ok (.invokestatic 316, 3) := by decide +kernel
theorem dX11_erratum_62 : decode cX11_erratum 62 = .ok (.iastore, 1) := by decide +kernel
theorem dX11_erratum_63 : decode cX11_erratum 63 = .ok (.aload_n 0, 1) := by decide +kernel
theorem dX11_erratum_64 : decode cX11_erratum 64 = .ok (.getfield 88, 3) := by decide +kernel
theorem dX11_erratum_67 : decode cX11_erratum 67 = .ok (.aload_n 0, 1) := by decide +kernel
theorem dX11_erratum_68 : decode cX11_erratum 68 = .ok (.getfield 430, 3) := by decide +kernel
theorem dX11_erratum_71 : decode cX11_erratum 71 = .ok (.iload_n 3, 1) := by decide +kernel
theorem dX11_erratum_72 : decode cX11_erratum 72 = .ok (.iastore, 1) := by decide +kernel
theorem dX11_erratum_73 : decode cX11_erratum 73 = .ok (.aload_n 0, 1) := by decide +kernel
theorem dX11_erratum_74 : decode cX11_erratum 74 = .ok (.getfield 91, 3) := by decide +kernel
theorem dX11_erratum_77 : decode cX11_erratum 77 = .ok (.aload_n 0, 1) := by decide +kernel
theorem dX11_erratum_78 : decode cX11_erratum 78 = .ok (.getfield 430, 3) := by decide +kernel
theorem dX11_erratum_81 : decode cX11_erratum 81 = .ok (.iload 4, 2) := by decide +kernel
theorem dX11_erratum_83 : decode cX11_erratum 83 = .ok (.iastore, 1) := by decide +kernel
theorem dX11_erratum_84 : decode cX11_erratum 84 = .ok (.aload_n 0, 1) := by decide +kernel
theorem dX11_erratum_85 : decode cX11_erratum 85 = .ok (.getfield 94, 3) := by decide +kernel
theorem dX11_erratum_88 : decode cX11_erratum 88 = .ok (.aload_n 0, 1) := by decide +kernel
theorem dX11_erratum_89 : decode cX11_erratum 89 = .ok (.getfield 430, 3) := by decide +kernel
theorem dX11_erratum_92 : decode cX11_erratum 92 = .ok (.aload_n 0, 1) := by decide +kernel
theorem dX11_erratum_93 : decode cX11_erratum 93 = .ok (.getfield 287, 3) := by decide +kernel
theorem dX11_erratum_96 : decode cX11_erratum 96 = .ok (.iastore, 1) := by decide +kernel
theorem dX11_erratum_97 : decode cX11_erratum 97 = .ok (.aload_n 0, 1) := by decide +kernel
theorem dX11_erratum_98 : decode cX11_erratum 98 = .ok (.dup, 1) := by decide +kernel
theorem dX11_erratum_99 : decode cX11_erratum 99 = .ok (.getfield 430, 3) := by decide +kernel
theorem dX11_erratum_102 : decode cX11_erratum 102 = .ok (.iconst 1, 1) := by decide +kernel
theorem dX11_erratum_103 : decode cX11_erratum 103 = .ok (.iadd, 1) := by decide +kernel
theorem dX11_erratum_104 : decode cX11_erratum 104 = .ok (.putfield 430, 3) := by decide +kernel
theorem dX11_erratum_107 : decode cX11_erratum 107 = .ok (.aload_n 0, 1) := by decide +kernel
theorem dX11_erratum_108 : decode cX11_erratum 108 = .ok (.getfield 430, 3) := by decide +kernel
theorem dX11_erratum_111 : decode cX11_erratum 111 = .ok (.iconst 1, 1) := by decide +kernel
theorem dX11_erratum_112 : decode cX11_erratum 112 = .ok (.isub, 1) := by decide +kernel
theorem dX11_erratum_113 : decode cX11_erratum 113 = .ok (.ireturn, 1) := by decide +kernel
theorem dX11_stands_0 : decode cX11_stands 0 = .ok (.aload_n 0, 1) := by decide +kernel
theorem dX11_stands_1 : decode cX11_stands 1 = .ok (.getfield 53, 3) := by decide +kernel
theorem dX11_stands_4 : decode cX11_stands 4 = .ok (.iload_n 1, 1) := by decide +kernel
theorem dX11_stands_5 : decode cX11_stands 5 = .ok (.iaload, 1) := by decide +kernel
theorem dX11_stands_6 : decode cX11_stands 6 = .ok (.istore 4, 2) := by decide +kernel
theorem dX11_stands_8 : decode cX11_stands 8 = .ok (.iconst 0, 1) := by decide +kernel
theorem dX11_stands_9 : decode cX11_stands 9 = .ok (.istore 5, 2) := by decide +kernel
theorem dX11_stands_11 : decode cX11_stands 11 = .ok (.iload 5, 2) := by decide +kernel
theorem dX11_stands_13 : decode cX11_stands 13 = .ok (.aload_n 0, 1) := by decide +kernel
theorem dX11_stands_14 : decode cX11_stands 14 = .ok (.getfield 430, 3) := by decide +kernel
theorem dX11_stands_17 : decode cX11_stands 17 = .ok (.if_icmp .ge 82, 3) := by decide +kernel
theorem dX11_stands_20 : decode cX11_stands 20 = .ok (.aload_n 0, 1) := by decide +kernel
theorem dX11_stands_21 : decode cX11_stands 21 = .ok (.getfield 85, 3) := by decide +kernel
theorem dX11_stands_24 : decode cX11_stands 24 = .ok (.iload 5, 2) := by decide +kernel
theorem dX11_stands_26 : decode cX11_stands 26 = .ok (.iaload, 1) := by decide +kernel
theorem dX11_stands_27 : decode cX11_stands 27 = .ok (.iload_n 1, 1) := by decide +kernel
theorem dX11_stands_28 : decode cX11_stands 28 = .ok (.if_icmp .ne 65, 3) := by decide +kernel
theorem dX11_stands_31 : decode cX11_stands 31 = .ok (.aload_n 0, 1) := by decide +kernel
theorem dX11_stands_32 : decode cX11_stands 32 = .ok (.getfield 94, 3) := by decide +kernel
theorem dX11_stands_35 : decode cX11_stands 35 = .ok (.iload 5, 2) := by decide +kernel
theorem dX11_stands_37 : decode cX11_stands 37 = .ok (.iaload, 1) := by decide +kernel
theorem dX11_stands_38 : decode cX11_stands 38 = .ok (.iload_n 2, 1) := by decide +kernel
theorem dX11_stands_39 : decode cX11_stands 39 = .ok (.if_icmp .le 6, 3) := by decide +kernel
theorem dX11_stands_42 : decode cX11_stands 42 = .ok (.goto 51, 3) := by decide +kernel
theorem dX11_stands_45 : decode cX11_stands 45 = .ok (.iload 5, 2) := by decide +kernel
theorem dX11_stands_47 : decode cX11_stands 47 = .ok (.iload_n 3, 1) := by decide +kernel
theorem dX11_stands_48 : decode cX11_stands 48 = .ok (.if_icmp .ne 24, 3) := by decide +kernel
theorem dX11_stands_51 : decode cX11_stands 51 = .ok (.aload_n 0, 1) := by decide +kernel
theorem dX11_stands_52 : decode cX11_stands 52 = .ok (.aload_n 0, 1) := by decide +kernel
theorem dX11_stands_53 : decode cX11_stands 53 = .ok (.getfield 88, 3) := by decide +kernel
theorem dX11_stands_56 : decode cX11_stands 56 = .ok (.iload 5, 2) := by decide +kernel
theorem dX11_stands_58 : decode cX11_stands 58 = .ok (.iaload, 1) := by decide +kernel
theorem dX11_stands_59 : decode cX11_stands 59 = .ok (.iload 4, 2) := by decide +kernel
theorem dX11_stands_61 : decode cX11_stands 61 = .ok (.if_icmp .ne 7, 3) := by decide +kernel
theorem dX11_stands_64 : decode cX11_stands 64 = .ok (.iconst 0, 1) := by decide +kernel
theorem dX11_stands_65 : decode cX11_stands 65 = .ok (.goto 4, 3) := by decide +kernel
theorem dX11_stands_68 : decode cX11_stands 68 = .ok (.iconst 1, 1) := by decide +kernel
theorem dX11_stands_69 : decode cX11_stands 69 = .ok (.putfield 433, 3) := by decide +kernel
theorem dX11_stands_72 : decode cX11_stands 72 = .ok (.aload_n 0, 1) := by decide +kernel
theorem dX11_stands_73 : decode cX11_stands 73 = .ok (.getfield 88, 3) := by decide +kernel
theorem dX11_stands_76 : decode cX11_stands 76 = .ok (.iload 5, 2) := by decide +kernel
theorem dX11_stands_78 : decode cX11_stands 78 = .ok (.iaload, 1) := by decide +kernel
theorem dX11_stands_79 : decode cX11_stands 79 = .ok (.iload 4, 2) := by decide +kernel
theorem dX11_stands_81 : decode cX11_stands 81 = .ok (.if_icmp .ne 12, 3) := by decide +kernel
theorem dX11_stands_84 : decode cX11_stands 84 = .ok (.aload_n 0, 1) := by decide +kernel
theorem dX11_stands_85 : decode cX11_stands 85 = .ok (.getfield 91, 3) := by decide +kernel
theorem dX11_stands_88 : decode cX11_stands 88 = .ok (.iload 5, 2) := by decide +kernel
theorem dX11_stands_90 : decode cX11_stands 90 = .ok (.iaload, 1) := by decide +kernel
theorem dX11_stands_91 : decode cX11_stands 91 = .ok (.istore 4, 2) := by decide +kernel
theorem dX11_stands_93 : decode cX11_stands 93 = .ok (.iinc 5 1, 3) := by decide +kernel
theorem dX11_stands_96 : decode cX11_stands 96 = .ok (.goto (-85), 3) := by decide +kernel
theorem dX11_stands_99 : decode cX11_stands 99 = .ok (.iload 4, 2) := by decide +kernel
theorem dX11_stands_101 : decode cX11_stands 101 = .ok (.ireturn, 1) := by decide +kernel
theorem dX11_misses_0 : decode cX11_misses 0 = .ok (.iload_n 1, 1) := by decide +kernel
theorem dX11_misses_1 : decode cX11_misses 1 = .ok (.i2l, 1) := by decide +kernel
theorem dX11_misses_2 : decode cX11_misses 2 = .ok (.lconst 0, 1) := by decide +kernel
theorem dX11_misses_3 : decode cX11_misses 3 = .ok (.aload_n 0, 1) := by decide +kernel
theorem dX11_misses_4 : decode cX11_misses 4 = .ok (.getfield 430, 3) := by decide +kernel
theorem dX11_misses_7 : decode cX11_misses 7 = .ok (.iconst 1, 1) := by decide +kernel
theorem dX11_misses_8 : decode cX11_misses 8 = .ok (.isub, 1) := by decide +kernel
theorem dX11_misses_9 : decode cX11_misses 9 = .ok (.i2l, 1) := by decide +kernel
theorem dX11_misses_10 : decode cX11_misses 10 = .ok (.invokestatic 143, 3) := by decide +kernel
theorem dX11_misses_13 : decode cX11_misses 13 = .ok (.ifCond .ne 5, 3) := by decide +kernel
theorem dX11_misses_16 : decode cX11_misses 16 = .ok (.iconst (-1), 1) := by decide +kernel
theorem dX11_misses_17 : decode cX11_misses 17 = .ok (.ireturn, 1) := by decide +kernel
theorem dX11_misses_18 : decode cX11_misses 18 = .ok (.aload_n 0, 1) := by decide +kernel
theorem dX11_misses_19 : decode cX11_misses 19 = .ok (.aload_n 0, 1) := by decide +kernel
theorem dX11_misses_20 : decode cX11_misses 20 = .ok (.getfield 85, 3) := by decide +kernel
theorem dX11_misses_23 : decode cX11_misses 23 = .ok (.iload_n 1, 1) := by decide +kernel
theorem dX11_misses_24 : decode cX11_misses 24 = .ok (.iaload, 1) := by decide +kernel
theorem dX11_misses_25 : decode cX11_misses 25 = .ok (.sipush 999, 3) := by decide +kernel
theorem dX11_misses_28 : decode cX11_misses 28 = .ok (.iload_n 1, 1) := by decide +kernel
theorem dX11_misses_29 : decode cX11_misses 29 = .ok (.invokevirtual 436, 3) := by decide +kernel
theorem dX11_misses_32 : decode cX11_misses 32 = .ok (.pop, 1) := by decide +kernel
theorem dX11_misses_33 : decode cX11_misses 33 = .ok (.aload_n 0, 1) := by decide +kernel
theorem dX11_misses_34 : decode cX11_misses 34 = .ok (.getfield 433, 3) := by decide +kernel
theorem dX11_misses_37 : decode cX11_misses 37 = .ok (.ireturn, 1) := by decide +kernel
theorem dX11_known_0 : decode cX11_known 0 = .ok (.aload_n 0, 1) := by decide +kernel
theorem dX11_known_1 : decode cX11_known 1 = .ok (.iload_n 1, 1) := by decide +kernel
theorem dX11_known_2 : decode cX11_known 2 = .ok (.iload_n 2, 1) := by decide +kernel
theorem dX11_known_3 : decode cX11_known 3 = .ok (.invokevirtual 424, 3) := by decide +kernel
theorem dX11_known_6 : decode cX11_known 6 = .ok (.ifCond .eq 29, 3) := by decide +kernel
theorem dX11_known_9 : decode cX11_known 9 = .ok (.iload_n 3, 1) := by decide +kernel
theorem dX11_known_10 : decode cX11_known 10 = .ok (.i2l, 1) := by decide +kernel
theorem dX11_known_11 : decode cX11_known 11 = .ok (.lconst 0, 1) := by decide +kernel
theorem dX11_known_12 : decode cX11_known 12 = .ok (.ldc2_w 439, 3) := by decide +kernel
theorem dX11_known_15 : decode cX11_known 15 = .ok (.invokestatic 143, 3) := by decide +kernel
theorem dX11_known_18 : decode cX11_known 18 = .ok (.ifCond .eq 17, 3) := by decide +kernel
theorem dX11_known_21 : decode cX11_known 21 = .ok (.aload_n 0, 1) := by decide +kernel
theorem dX11_known_22 : decode cX11_known 22 = .ok (.iload_n 1, 1) := by decide +kernel
theorem dX11_known_23 : decode cX11_known 23 = .ok (.iload_n 2, 1) := by decide +kernel
theorem dX11_known_24 : decode cX11_known 24 = .ok (.invokestatic 316, 3) := by decide +kernel
theorem dX11_known_27 : decode cX11_known 27 = .ok (.iload_n 3, 1) := by decide +kernel
theorem dX11_known_28 : decode cX11_known 28 = .ok (.iconst (-1), 1) := by decide +kernel
theorem dX11_known_29 : decode cX11_known 29 = .ok (.invokevirtual 436, 3) := by decide +kernel
theorem dX11_known_32 : decode cX11_known 32 = .ok (.goto 6, 3) := by decide +kernel
theorem dX11_known_35 : decode cX11_known 35 = .ok (.ldc_w 283, 3) := by decide +kernel
theorem dX11_known_38 : decode cX11_known 38 = .ok (.ireturn, 1) := by decide +kernel
theorem dX11_rival_0 : decode cX11_rival 0 = .ok (.aload_n 0, 1) := by decide +kernel
theorem dX11_rival_1 : decode cX11_rival 1 = .ok (.iload_n 1, 1) := by decide +kernel
theorem dX11_rival_2 : decode cX11_rival 2 = .ok (.invokevirtual 420, 3) := by decide +kernel
theorem dX11_rival_5 : decode cX11_rival 5 = .ok (.ifCond .eq 33, 3) := by decide +kernel
theorem dX11_rival_8 : decode cX11_rival 8 = .ok (.aload_n 0, 1) := by decide +kernel
theorem dX11_rival_9 : decode cX11_rival 9 = .ok (.iload_n 1, 1) := by decide +kernel
theorem dX11_rival_10 : decode cX11_rival 10 = .ok (.iload_n 2, 1) := by decide +kernel
theorem dX11_rival_11 : decode cX11_rival 11 = .ok (.invokevirtual 313, 3) := by decide +kernel
theorem dX11_rival_14 : decode cX11_rival 14 = .ok (.ifCond .eq 24, 3) := by decide +kernel
theorem dX11_rival_17 : decode cX11_rival 17 = .ok (.iload_n 3, 1) := by decide +kernel
theorem dX11_rival_18 : decode cX11_rival 18 = .ok (.ldc_w 283, 3) := by decide +kernel
theorem dX11_rival_21 : decode cX11_rival 21 = .ok (.if_icmp .eq 19, 3) := by decide +kernel
theorem dX11_rival_24 : decode cX11_rival 24 = .ok (.iload_n 3, 1) := by decide +kernel
theorem dX11_rival_25 : decode cX11_rival 25 = .ok (.i2l, 1) := by decide +kernel
theorem dX11_rival_26 : decode cX11_rival 26 = .ok (.ldc2_w 306, 3) := by decide +kernel
theorem dX11_rival_29 : decode cX11_rival 29 = .ok (.ldc2_w 308, 3) := by decide +kernel
theorem dX11_rival_32 : decode cX11_rival 32 = .ok (.invokestatic 143, 3) := by decide +kernel
theorem dX11_rival_35 : decode cX11_rival 35 = .ok (.ifCond .ne 5, 3) := by decide +kernel
theorem dX11_rival_38 : decode cX11_rival 38 = .ok (.iconst 0, 1) := by decide +kernel
theorem dX11_rival_39 : decode cX11_rival 39 = .ok (.ireturn, 1) := by decide +kernel
theorem dX11_rival_40 : decode cX11_rival 40 = .ok (.aload_n 0, 1) := by decide +kernel
theorem dX11_rival_41 : decode cX11_rival 41 = .ok (.getfield 97, 3) := by decide +kernel
theorem dX11_rival_44 : decode cX11_rival 44 = .ok (.iload_n 1, 1) := by decide +kernel
theorem dX11_rival_45 : decode cX11_rival 45 = .ok (.iload_n 2, 1) := by decide +kernel
theorem dX11_rival_46 : decode cX11_rival 46 = .ok (.invokestatic 316, 3) := by decide +kernel
theorem dX11_rival_49 : decode cX11_rival 49 = .ok (.iload_n 3, 1) := by decide +kernel
theorem dX11_rival_50 : decode cX11_rival 50 = .ok (.iastore, 1) := by decide +kernel
theorem dX11_rival_51 : decode cX11_rival 51 = .ok (.iconst 1, 1) := by decide +kernel
theorem dX11_rival_52 : decode cX11_rival 52 = .ok (.ireturn, 1) := by decide +kernel
theorem dX11_shared_0 : decode cX11_shared 0 = .ok (.aload_n 0, 1) := by decide +kernel
theorem dX11_shared_1 : decode cX11_shared 1 = .ok (.iload_n 1, 1) := by decide +kernel
theorem dX11_shared_2 : decode cX11_shared 2 = .ok (.invokevirtual 420, 3) := by decide +kernel
theorem dX11_shared_5 : decode cX11_shared 5 = .ok (.ifCond .ne 5, 3) := by decide +kernel
theorem dX11_shared_8 : decode cX11_shared 8 = .ok (.iconst (-1), 1) := by decide +kernel
theorem dX11_shared_9 : decode cX11_shared 9 = .ok (.ireturn, 1) := by decide +kernel
theorem dX11_shared_10 : decode cX11_shared 10 = .ok (.iconst 0, 1) := by decide +kernel
theorem dX11_shared_11 : decode cX11_shared 11 = .ok (.istore_n 2, 1) := by decide +kernel
theorem dX11_shared_12 : decode cX11_shared 12 = .ok (.iconst 0, 1) := by decide +kernel
theorem dX11_shared_13 : decode cX11_shared 13 = .ok (.istore_n 3, 1) := by decide +kernel
theorem dX11_shared_14 : decode cX11_shared 14 = .ok (.iload_n 3, 1) := by decide +kernel
theorem dX11_shared_15 : decode cX11_shared 15 = .ok (.aload_n 0, 1) := by decide +kernel
theorem dX11_shared_16 : decode cX11_shared 16 = .ok (.getfield 32, 3) := by decide +kernel
theorem dX11_shared_19 : decode cX11_shared 19 = .ok (.iload_n 1, 1) := by decide +kernel
theorem dX11_shared_20 : decode cX11_shared 20 = .ok (.iaload, 1) := by decide +kernel
theorem dX11_shared_21 : decode cX11_shared 21 = .ok (.if_icmp .ge 52, 3) := by decide +kernel
theorem dX11_shared_24 : decode cX11_shared 24 = .ok (.iload_n 2, 1) := by decide +kernel
theorem dX11_shared_25 : decode cX11_shared 25 = .ok (.aload_n 0, 1) := by decide +kernel
theorem dX11_shared_26 : decode cX11_shared 26 = .ok (.iload_n 1, 1) := by decide +kernel
theorem dX11_shared_27 : decode cX11_shared 27 = .ok (.iload_n 3, 1) := by decide +kernel
theorem dX11_shared_28 : decode cX11_shared 28 = .ok (.invokestatic 316, 3) := by decide +kernel
theorem dX11_shared_31 : decode cX11_shared 31 = .ok (.invokevirtual 441, 3) := by decide +kernel
theorem dX11_shared_34 : decode cX11_shared 34 = .ok (.ifCond .eq 30, 3) := by decide +kernel
theorem dX11_shared_37 : decode cX11_shared 37 = .ok (.aload_n 0, 1) := by decide +kernel
theorem dX11_shared_38 : decode cX11_shared 38 = .ok (.getfield 97, 3) := by decide +kernel
theorem dX11_shared_41 : decode cX11_shared 41 = .ok (.iload_n 1, 1) := by decide +kernel
theorem dX11_shared_42 : decode cX11_shared 42 = .ok (.iload_n 3, 1) := by decide +kernel
theorem dX11_shared_43 : decode cX11_shared 43 = .ok (.invokestatic 316, 3) := by decide +kernel
theorem dX11_shared_46 : decode cX11_shared 46 = .ok (.iaload, 1) := by decide +kernel
theorem dX11_shared_47 : decode cX11_shared 47 = .ok (.aload_n 0, 1) := by decide +kernel
theorem dX11_shared_48 : decode cX11_shared 48 = .ok (.getfield 53, 3) := by decide +kernel
theorem dX11_shared_51 : decode cX11_shared 51 = .ok (.iload_n 1, 1) := by decide +kernel
theorem dX11_shared_52 : decode cX11_shared 52 = .ok (.iload_n 3, 1) := by decide +kernel
theorem dX11_shared_53 : decode cX11_shared 53 = .ok (.invokestatic 316, 3) := by decide +kernel
theorem dX11_shared_56 : decode cX11_shared 56 = .ok (.iaload, 1) := by decide +kernel
theorem dX11_shared_57 : decode cX11_shared 57 = .ok (.if_icmp .ne 7, 3) := by decide +kernel
theorem dX11_shared_60 : decode cX11_shared 60 = .ok (.iconst 1, 1) := by decide +kernel
theorem dX11_shared_61 : decode cX11_shared 61 = .ok (.goto 4, 3) := by decide +kernel
theorem dX11_shared_64 : decode cX11_shared 64 = .ok (.iconst 0, 1) := by decide +kernel
theorem dX11_shared_65 : decode cX11_shared 65 = .ok (.iadd, 1) := by decide +kernel
theorem dX11_shared_66 : decode cX11_shared 66 = .ok (.istore_n 2, 1) := by decide +kernel
theorem dX11_shared_67 : decode cX11_shared 67 = .ok (.iinc 3 1, 3) := by decide +kernel
theorem dX11_shared_70 : decode cX11_shared 70 = .ok (.goto (-56), 3) := by decide +kernel
theorem dX11_shared_73 : decode cX11_shared 73 = .ok (.iload_n 2, 1) := by decide +kernel
theorem dX11_shared_74 : decode cX11_shared 74 = .ok (.ireturn, 1) := by decide +kernel
theorem dX11_ways_0 : decode cX11_ways 0 = .ok (.iload_n 1, 1) := by decide +kernel
theorem dX11_ways_1 : decode cX11_ways 1 = .ok (.ifCond .lt 8, 3) := by decide +kernel
theorem dX11_ways_4 : decode cX11_ways 4 = .ok (.iload_n 1, 1) := by decide +kernel
theorem dX11_ways_5 : decode cX11_ways 5 = .ok (.iload_n 0, 1) := by decide +kernel
theorem dX11_ways_6 : decode cX11_ways 6 = .ok (.if_icmp .le 5, 3) := by decide +kernel
theorem dX11_ways_9 : decode cX11_ways 9 = .ok (.lconst 0, 1) := by decide +kernel
theorem dX11_ways_10 : decode cX11_ways 10 = .ok (.lreturn, 1) := by decide +kernel
theorem dX11_ways_11 : decode cX11_ways 11 = .ok (.lconst 1, 1) := by decide +kernel
theorem dX11_ways_12 : decode cX11_ways 12 = .ok (.lstore_n 2, 1) := by decide +kernel
theorem dX11_ways_13 : decode cX11_ways 13 = .ok (.iconst 1, 1) := by decide +kernel
theorem dX11_ways_14 : decode cX11_ways 14 = .ok (.istore 4, 2) := by decide +kernel
theorem dX11_ways_16 : decode cX11_ways 16 = .ok (.iload 4, 2) := by decide +kernel
theorem dX11_ways_18 : decode cX11_ways 18 = .ok (.iload_n 1, 1) := by decide +kernel
theorem dX11_ways_19 : decode cX11_ways 19 = .ok (.if_icmp .gt 23, 3) := by decide +kernel
theorem dX11_ways_22 : decode cX11_ways 22 = .ok (.lload_n 2, 1) := by decide +kernel
theorem dX11_ways_23 : decode cX11_ways 23 = .ok (.iload_n 0, 1) := by decide +kernel
theorem dX11_ways_24 : decode cX11_ways 24 = .ok (.iload_n 1, 1) := by decide +kernel
theorem dX11_ways_25 : decode cX11_ways 25 = .ok (.isub, 1) := by decide +kernel
theorem dX11_ways_26 : decode cX11_ways 26 = .ok (.iload 4, 2) := by decide +kernel
theorem dX11_ways_28 : decode cX11_ways 28 = .ok (.iadd, 1) := by decide +kernel
theorem dX11_ways_29 : decode cX11_ways 29 = .ok (.i2l, 1) := by decide +kernel
theorem dX11_ways_30 : decode cX11_ways 30 = .ok (.lmul, 1) := by decide +kernel
theorem dX11_ways_31 : decode cX11_ways 31 = .ok (.iload 4, 2) := by decide +kernel
theorem dX11_ways_33 : decode cX11_ways 33 = .ok (.i2l, 1) := by decide +kernel
theorem dX11_ways_34 : decode cX11_ways 34 = .ok (.ldiv, 1) := by decide +kernel
theorem dX11_ways_35 : decode cX11_ways 35 = .ok (.lstore_n 2, 1) := by decide +kernel
theorem dX11_ways_36 : decode cX11_ways 36 = .ok (.iinc 4 1, 3) := by decide +kernel
theorem dX11_ways_39 : decode cX11_ways 39 = .ok (.goto (-23), 3) := by decide +kernel
theorem dX11_ways_42 : decode cX11_ways 42 = .ok (.lload_n 2, 1) := by decide +kernel
theorem dX11_ways_43 : decode cX11_ways 43 = .ok (.lreturn, 1) := by decide +kernel
theorem dX11_copied_0 : decode cX11_copied 0 = .ok (.aload_n 0, 1) := by decide +kernel
theorem dX11_copied_1 : decode cX11_copied 1 = .ok (.iload_n 1, 1) := by decide +kernel
theorem dX11_copied_2 : decode cX11_copied 2 = .ok (.invokevirtual 420, 3) := by decide +kernel
theorem dX11_copied_5 : decode cX11_copied 5 = .ok (.ifCond .ne 5, 3) := by decide +kernel
theorem dX11_copied_8 : decode cX11_copied 8 = .ok (.iconst (-1), 1) := by decide +kernel
theorem dX11_copied_9 : decode cX11_copied 9 = .ok (.ireturn, 1) := by decide +kernel
theorem dX11_copied_10 : decode cX11_copied 10 = .ok (.iconst 0, 1) := by decide +kernel
theorem dX11_copied_11 : decode cX11_copied 11 = .ok (.istore_n 2, 1) := by decide +kernel
theorem dX11_copied_12 : decode cX11_copied 12 = .ok (.iconst 0, 1) := by decide +kernel
theorem dX11_copied_13 : decode cX11_copied 13 = .ok (.istore_n 3, 1) := by decide +kernel
theorem dX11_copied_14 : decode cX11_copied 14 = .ok (.iconst 0, 1) := by decide +kernel
theorem dX11_copied_15 : decode cX11_copied 15 = .ok (.istore 4, 2) := by decide +kernel
theorem dX11_copied_17 : decode cX11_copied 17 = .ok (.iconst 0, 1) := by decide +kernel
theorem dX11_copied_18 : decode cX11_copied 18 = .ok (.istore 5, 2) := by decide +kernel
theorem dX11_copied_20 : decode cX11_copied 20 = .ok (.iload 5, 2) := by decide +kernel
theorem dX11_copied_22 : decode cX11_copied 22 = .ok (.aload_n 0, 1) := by decide +kernel
theorem dX11_copied_23 : decode cX11_copied 23 = .ok (.getfield 32, 3) := by decide +kernel
theorem dX11_copied_26 : decode cX11_copied 26 = .ok (.iload_n 1, 1) := by decide +kernel
theorem dX11_copied_27 : decode cX11_copied 27 = .ok (.iaload, 1) := by decide +kernel
theorem dX11_copied_28 : decode cX11_copied 28 = .ok (.if_icmp .ge 80, 3) := by decide +kernel
theorem dX11_copied_31 : decode cX11_copied 31 = .ok (.iload_n 1, 1) := by decide +kernel
theorem dX11_copied_32 : decode cX11_copied 32 = .ok (.iload 5, 2) := by decide +kernel
theorem dX11_copied_34 : decode cX11_copied 34 = .ok (.invokestatic 316, 3) := by decide +kernel
theorem dX11_copied_37 : decode cX11_copied 37 = .ok (.istore 6, 2) := by decide +kernel
theorem dX11_copied_39 : decode cX11_copied 39 = .ok (.aload_n 0, 1) := by decide +kernel
theorem dX11_copied_40 : decode cX11_copied 40 = .ok (.getfield 97, 3) := by decide +kernel
theorem dX11_copied_43 : decode cX11_copied 43 = .ok (.iload 6, 2) := by decide +kernel
theorem dX11_copied_45 : decode cX11_copied 45 = .ok (.iaload, 1) := by decide +kernel
theorem dX11_copied_46 : decode cX11_copied 46 = .ok (.ldc_w 283, 3) := by decide +kernel
theorem dX11_copied_49 : decode cX11_copied 49 = .ok (.if_icmp .ne 6, 3) := by decide +kernel
theorem dX11_copied_52 : decode cX11_copied 52 = .ok (.goto 50, 3) := by decide +kernel
theorem dX11_copied_55 : decode cX11_copied 55 = .ok (.iinc 2 1, 3) := by decide +kernel
theorem dX11_copied_58 : decode cX11_copied 58 = .ok (.iload_n 3, 1) := by decide +kernel
theorem dX11_copied_59 : decode cX11_copied 59 = .ok (.aload_n 0, 1) := by decide +kernel
theorem dX11_copied_60 : decode cX11_copied 60 = .ok (.getfield 97, 3) := by decide +kernel
theorem dX11_copied_63 : decode cX11_copied 63 = .ok (.iload 6, 2) := by decide +kernel
theorem dX11_copied_65 : decode cX11_copied 65 = .ok (.iaload, 1) := by decide +kernel
theorem dX11_copied_66 : decode cX11_copied 66 = .ok (.aload_n 0, 1) := by decide +kernel
theorem dX11_copied_67 : decode cX11_copied 67 = .ok (.getfield 35, 3) := by decide +kernel
theorem dX11_copied_70 : decode cX11_copied 70 = .ok (.iload 6, 2) := by decide +kernel
theorem dX11_copied_72 : decode cX11_copied 72 = .ok (.iaload, 1) := by decide +kernel
theorem dX11_copied_73 : decode cX11_copied 73 = .ok (.if_icmp .eq 7, 3) := by decide +kernel
theorem dX11_copied_76 : decode cX11_copied 76 = .ok (.iconst 1, 1) := by decide +kernel
theorem dX11_copied_77 : decode cX11_copied 77 = .ok (.goto 4, 3) := by decide +kernel
theorem dX11_copied_80 : decode cX11_copied 80 = .ok (.iconst 0, 1) := by decide +kernel
theorem dX11_copied_81 : decode cX11_copied 81 = .ok (.iadd, 1) := by decide +kernel
theorem dX11_copied_82 : decode cX11_copied 82 = .ok (.istore_n 3, 1) := by decide +kernel
theorem dX11_copied_83 : decode cX11_copied 83 = .ok (.iload 4, 2) := by decide +kernel
theorem dX11_copied_85 : decode cX11_copied 85 = .ok (.aload_n 0, 1) := by decide +kernel
theorem dX11_copied_86 : decode cX11_copied 86 = .ok (.iload 6, 2) := by decide +kernel
theorem dX11_copied_88 : decode cX11_copied 88 = .ok (.invokevirtual 441, 3) := by decide +kernel
theorem dX11_copied_91 : decode cX11_copied 91 = .ok (.ifCond .eq 7, 3) := by decide +kernel
theorem dX11_copied_94 : decode cX11_copied 94 = .ok (.iconst 1, 1) := by decide +kernel
theorem dX11_copied_95 : decode cX11_copied 95 = .ok (.goto 4, 3) := by decide +kernel
theorem dX11_copied_98 : decode cX11_copied 98 = .ok (.iconst 0, 1) := by decide +kernel
theorem dX11_copied_99 : decode cX11_copied 99 = .ok (.iadd, 1) := by decide +kernel
theorem dX11_copied_100 : decode cX11_copied 100 = .ok (.istore 4, 2) := by decide +kernel
theorem dX11_copied_102 : decode cX11_copied 102 = .ok (.iinc 5 1, 3) := by decide +kernel
theorem dX11_copied_105 : decode cX11_copied 105 = .ok (.goto (-85), 3) := by decide +kernel
theorem dX11_copied_108 : decode cX11_copied 108 = .ok (.lconst 0, 1) := by decide +kernel
theorem dX11_copied_109 : decode cX11_copied 109 = .ok (.lstore 5, 2) := by decide +kernel
theorem dX11_copied_111 : decode cX11_copied 111 = .ok (.aload_n 0, 1) := by decide +kernel
theorem dX11_copied_112 : decode cX11_copied 112 = .ok (.iload_n 1, 1) := by decide +kernel
theorem dX11_copied_113 : decode cX11_copied 113 = .ok (.invokevirtual 444, 3) := by decide +kernel
theorem dX11_copied_116 : decode cX11_copied 116 = .ok (.istore 7, 2) := by decide +kernel
theorem dX11_copied_118 : decode cX11_copied 118 = .ok (.iload 7, 2) := by decide +kernel
theorem dX11_copied_120 : decode cX11_copied 120 = .ok (.iload 4, 2) := by decide +kernel
theorem dX11_copied_122 : decode cX11_copied 122 = .ok (.if_icmp .gt 33, 3) := by decide +kernel
theorem dX11_copied_125 : decode cX11_copied 125 = .ok (.lload 5, 2) := by decide +kernel
theorem dX11_copied_127 : decode cX11_copied 127 = .ok (.iload 4, 2) := by decide +kernel
theorem dX11_copied_129 : decode cX11_copied 129 = .ok (.iload 7, 2) := by decide +kernel
theorem dX11_copied_131 : decode cX11_copied 131 = .ok (.invokestatic 447, 3) := by decide +kernel
theorem dX11_copied_134 : decode cX11_copied 134 = .ok (.iload_n 2, 1) := by decide +kernel
theorem dX11_copied_135 : decode cX11_copied 135 = .ok (.iload 4, 2) := by decide +kernel
theorem dX11_copied_137 : decode cX11_copied 137 = .ok (.isub, 1) := by decide +kernel
theorem dX11_copied_138 : decode cX11_copied 138 = .ok (.iload_n 3, 1) := by decide +kernel
theorem dX11_copied_139 : decode cX11_copied 139 = .ok (.iload 7, 2) := by decide +kernel
theorem dX11_copied_141 : decode cX11_copied 141 = .ok (.isub, 1) := by decide +kernel
theorem dX11_copied_142 : decode cX11_copied 142 = .ok (.invokestatic 447, 3) := by decide +kernel
theorem dX11_copied_145 : decode cX11_copied 145 = .ok (.lmul, 1) := by decide +kernel
theorem dX11_copied_146 : decode cX11_copied 146 = .ok (.ladd, 1) := by decide +kernel
theorem dX11_copied_147 : decode cX11_copied 147 = .ok (.lstore 5, 2) := by decide +kernel
theorem dX11_copied_149 : decode cX11_copied 149 = .ok (.iinc 7 1, 3) := by decide +kernel
theorem dX11_copied_152 : decode cX11_copied 152 = .ok (.goto (-34), 3) := by decide +kernel
theorem dX11_copied_155 : decode cX11_copied 155 = .ok (.ldc2_w 270, 3) := by decide +kernel
theorem dX11_copied_158 : decode cX11_copied 158 = .ok (.lload 5, 2) := by decide +kernel
theorem dX11_copied_160 : decode cX11_copied 160 = .ok (.lmul, 1) := by decide +kernel
theorem dX11_copied_161 : decode cX11_copied 161 = .ok (.iload_n 2, 1) := by decide +kernel
theorem dX11_copied_162 : decode cX11_copied 162 = .ok (.iload_n 3, 1) := by decide +kernel
theorem dX11_copied_163 : decode cX11_copied 163 = .ok (.invokestatic 447, 3) := by decide +kernel
theorem dX11_copied_166 : decode cX11_copied 166 = .ok (.lcmp, 1) := by decide +kernel
theorem dX11_copied_167 : decode cX11_copied 167 = .ok (.ifCond .ge 7, 3) := by decide +kernel
theorem dX11_copied_170 : decode cX11_copied 170 = .ok (.iconst 1, 1) := by decide +kernel
theorem dX11_copied_171 : decode cX11_copied 171 = .ok (.goto 4, 3) := by decide +kernel
theorem dX11_copied_174 : decode cX11_copied 174 = .ok (.iconst 0, 1) := by decide +kernel
theorem dX11_copied_175 : decode cX11_copied 175 = .ok (.ireturn, 1) := by decide +kernel
theorem dX11_lead_0 : decode cX11_lead 0 = .ok (.aload_n 0, 1) := by decide +kernel
theorem dX11_lead_1 : decode cX11_lead 1 = .ok (.iload_n 1, 1) := by decide +kernel
theorem dX11_lead_2 : decode cX11_lead 2 = .ok (.iload_n 2, 1) := by decide +kernel
theorem dX11_lead_3 : decode cX11_lead 3 = .ok (.invokevirtual 313, 3) := by decide +kernel
theorem dX11_lead_6 : decode cX11_lead 6 = .ok (.ifCond .ne 5, 3) := by decide +kernel
theorem dX11_lead_9 : decode cX11_lead 9 = .ok (.iconst (-1), 1) := by decide +kernel
theorem dX11_lead_10 : decode cX11_lead 10 = .ok (.ireturn, 1) := by decide +kernel
theorem dX11_lead_11 : decode cX11_lead 11 = .ok (.iload_n 1, 1) := by decide +kernel
theorem dX11_lead_12 : decode cX11_lead 12 = .ok (.iload_n 2, 1) := by decide +kernel
theorem dX11_lead_13 : decode cX11_lead 13 = .ok (.invokestatic 316, 3) := by decide +kernel
theorem dX11_lead_16 : decode cX11_lead 16 = .ok (.istore 4, 2) := by decide +kernel
theorem dX11_lead_18 : decode cX11_lead 18 = .ok (.aload_n 0, 1) := by decide +kernel
theorem dX11_lead_19 : decode cX11_lead 19 = .ok (.getfield 47, 3) := by decide +kernel
theorem dX11_lead_22 : decode cX11_lead 22 = .ok (.iload 4, 2) := by decide +kernel
theorem dX11_lead_24 : decode cX11_lead 24 = .ok (.iaload, 1) := by decide +kernel
theorem dX11_lead_25 : decode cX11_lead 25 = .ok (.iconst (-1), 1) := by decide +kernel
theorem dX11_lead_26 : decode cX11_lead 26 = .ok (.if_icmp .eq 7, 3) := by decide +kernel
theorem dX11_lead_29 : decode cX11_lead 29 = .ok (.iconst 1, 1) := by decide +kernel
theorem dX11_lead_30 : decode cX11_lead 30 = .ok (.goto 4, 3) := by decide +kernel
theorem dX11_lead_33 : decode cX11_lead 33 = .ok (.iconst 0, 1) := by decide +kernel
theorem dX11_lead_34 : decode cX11_lead 34 = .ok (.istore 5, 2) := by decide +kernel
theorem dX11_lead_36 : decode cX11_lead 36 = .ok (.aload_n 0, 1) := by decide +kernel
theorem dX11_lead_37 : decode cX11_lead 37 = .ok (.getfield 56, 3) := by decide +kernel
theorem dX11_lead_40 : decode cX11_lead 40 = .ok (.iload 4, 2) := by decide +kernel
theorem dX11_lead_42 : decode cX11_lead 42 = .ok (.iaload, 1) := by decide +kernel
theorem dX11_lead_43 : decode cX11_lead 43 = .ok (.iconst (-1), 1) := by decide +kernel
theorem dX11_lead_44 : decode cX11_lead 44 = .ok (.if_icmp .eq 7, 3) := by decide +kernel
theorem dX11_lead_47 : decode cX11_lead 47 = .ok (.iconst 1, 1) := by decide +kernel
theorem dX11_lead_48 : decode cX11_lead 48 = .ok (.goto 4, 3) := by decide +kernel
theorem dX11_lead_51 : decode cX11_lead 51 = .ok (.iconst 0, 1) := by decide +kernel
theorem dX11_lead_52 : decode cX11_lead 52 = .ok (.istore 6, 2) := by decide +kernel
theorem dX11_lead_54 : decode cX11_lead 54 = .ok (.iload_n 3, 1) := by decide +kernel
theorem dX11_lead_55 : decode cX11_lead 55 = .ok (.tableswitch 148 0 6 #[41, 49, 66, 74, 91, 99, 127], 41) := by decide +kernel
theorem dX11_lead_96 : decode cX11_lead 96 = .ok (.aload_n 0, 1) := by decide +kernel
theorem dX11_lead_97 : decode cX11_lead 97 = .ok (.getfield 47, 3) := by decide +kernel
theorem dX11_lead_100 : decode cX11_lead 100 = .ok (.iload 4, 2) := by decide +kernel
theorem dX11_lead_102 : decode cX11_lead 102 = .ok (.iaload, 1) := by decide +kernel
theorem dX11_lead_103 : decode cX11_lead 103 = .ok (.ireturn, 1) := by decide +kernel
theorem dX11_lead_104 : decode cX11_lead 104 = .ok (.iload 5, 2) := by decide +kernel
theorem dX11_lead_106 : decode cX11_lead 106 = .ok (.ifCond .eq 13, 3) := by decide +kernel
theorem dX11_lead_109 : decode cX11_lead 109 = .ok (.aload_n 0, 1) := by decide +kernel
theorem dX11_lead_110 : decode cX11_lead 110 = .ok (.getfield 50, 3) := by decide +kernel
theorem dX11_lead_113 : decode cX11_lead 113 = .ok (.iload 4, 2) := by decide +kernel
theorem dX11_lead_115 : decode cX11_lead 115 = .ok (.iaload, 1) := by decide +kernel
theorem dX11_lead_116 : decode cX11_lead 116 = .ok (.goto 4, 3) := by decide +kernel
theorem dX11_lead_119 : decode cX11_lead 119 = .ok (.iconst (-1), 1) := by decide +kernel
theorem dX11_lead_120 : decode cX11_lead 120 = .ok (.ireturn, 1) := by decide +kernel
theorem dX11_lead_121 : decode cX11_lead 121 = .ok (.aload_n 0, 1) := by decide +kernel
theorem dX11_lead_122 : decode cX11_lead 122 = .ok (.getfield 56, 3) := by decide +kernel
theorem dX11_lead_125 : decode cX11_lead 125 = .ok (.iload 4, 2) := by decide +kernel
theorem dX11_lead_127 : decode cX11_lead 127 = .ok (.iaload, 1) := by decide +kernel
theorem dX11_lead_128 : decode cX11_lead 128 = .ok (.ireturn, 1) := by decide +kernel
theorem dX11_lead_129 : decode cX11_lead 129 = .ok (.iload 6, 2) := by decide +kernel
theorem dX11_lead_131 : decode cX11_lead 131 = .ok (.ifCond .eq 13, 3) := by decide +kernel
theorem dX11_lead_134 : decode cX11_lead 134 = .ok (.aload_n 0, 1) := by decide +kernel
theorem dX11_lead_135 : decode cX11_lead 135 = .ok (.getfield 59, 3) := by decide +kernel
theorem dX11_lead_138 : decode cX11_lead 138 = .ok (.iload 4, 2) := by decide +kernel
theorem dX11_lead_140 : decode cX11_lead 140 = .ok (.iaload, 1) := by decide +kernel
theorem dX11_lead_141 : decode cX11_lead 141 = .ok (.goto 4, 3) := by decide +kernel
theorem dX11_lead_144 : decode cX11_lead 144 = .ok (.iconst (-1), 1) := by decide +kernel
theorem dX11_lead_145 : decode cX11_lead 145 = .ok (.ireturn, 1) := by decide +kernel
theorem dX11_lead_146 : decode cX11_lead 146 = .ok (.aload_n 0, 1) := by decide +kernel
theorem dX11_lead_147 : decode cX11_lead 147 = .ok (.getfield 65, 3) := by decide +kernel
theorem dX11_lead_150 : decode cX11_lead 150 = .ok (.iload 4, 2) := by decide +kernel
theorem dX11_lead_152 : decode cX11_lead 152 = .ok (.iaload, 1) := by decide +kernel
theorem dX11_lead_153 : decode cX11_lead 153 = .ok (.ireturn, 1) := by decide +kernel
theorem dX11_lead_154 : decode cX11_lead 154 = .ok (.aload_n 0, 1) := by decide +kernel
theorem dX11_lead_155 : decode cX11_lead 155 = .ok (.iload 4, 2) := by decide +kernel
theorem dX11_lead_157 : decode cX11_lead 157 = .ok (.invokevirtual 332, 3) := by decide +kernel
theorem dX11_lead_160 : decode cX11_lead 160 = .ok (.ifCond .eq 20, 3) := by decide +kernel
theorem dX11_lead_163 : decode cX11_lead 163 = .ok (.aload_n 0, 1) := by decide +kernel
theorem dX11_lead_164 : decode cX11_lead 164 = .ok (.iload 4, 2) := by decide +kernel
theorem dX11_lead_166 : decode cX11_lead 166 = .ok (.invokevirtual 441, 3) := by decide +kernel
theorem dX11_lead_169 : decode cX11_lead 169 = .ok (.ifCond .eq 7, 3) := by decide +kernel
theorem dX11_lead_172 : decode cX11_lead 172 = .ok (.iconst 1, 1) := by decide +kernel
theorem dX11_lead_173 : decode cX11_lead 173 = .ok (.goto 8, 3) := by decide +kernel
theorem dX11_lead_176 : decode cX11_lead 176 = .ok (.iconst 0, 1) := by decide +kernel
theorem dX11_lead_177 : decode cX11_lead 177 = .ok (.goto 4, 3) := by decide +kernel
theorem dX11_lead_180 : decode cX11_lead 180 = .ok (.iconst (-1), 1) := by decide +kernel
theorem dX11_lead_181 : decode cX11_lead 181 = .ok (.ireturn, 1) := by decide +kernel
theorem dX11_lead_182 : decode cX11_lead 182 = .ok (.aload_n 0, 1) := by decide +kernel
theorem dX11_lead_183 : decode cX11_lead 183 = .ok (.iload_n 1, 1) := by decide +kernel
theorem dX11_lead_184 : decode cX11_lead 184 = .ok (.iload_n 2, 1) := by decide +kernel
theorem dX11_lead_185 : decode cX11_lead 185 = .ok (.invokevirtual 424, 3) := by decide +kernel
theorem dX11_lead_188 : decode cX11_lead 188 = .ok (.ifCond .eq 13, 3) := by decide +kernel
theorem dX11_lead_191 : decode cX11_lead 191 = .ok (.aload_n 0, 1) := by decide +kernel
theorem dX11_lead_192 : decode cX11_lead 192 = .ok (.getfield 82, 3) := by decide +kernel
theorem dX11_lead_195 : decode cX11_lead 195 = .ok (.iload 4, 2) := by decide +kernel
theorem dX11_lead_197 : decode cX11_lead 197 = .ok (.iaload, 1) := by decide +kernel
theorem dX11_lead_198 : decode cX11_lead 198 = .ok (.goto 4, 3) := by decide +kernel
theorem dX11_lead_201 : decode cX11_lead 201 = .ok (.iconst (-1), 1) := by decide +kernel
theorem dX11_lead_202 : decode cX11_lead 202 = .ok (.ireturn, 1) := by decide +kernel
theorem dX11_lead_203 : decode cX11_lead 203 = .ok (.iconst (-1), 1) := by decide +kernel
theorem dX11_lead_204 : decode cX11_lead 204 = .ok (.ireturn, 1) := by decide +kernel
theorem dX11_count_0 : decode cX11_count 0 = .ok (.iload_n 1, 1) := by decide +kernel
theorem dX11_count_1 : decode cX11_count 1 = .ok (.bipush 10, 2) := by decide +kernel
theorem dX11_count_3 : decode cX11_count 3 = .ok (.irem, 1) := by decide +kernel
theorem dX11_count_4 : decode cX11_count 4 = .ok (.istore_n 2, 1) := by decide +kernel
theorem dX11_count_5 : decode cX11_count 5 = .ok (.iload_n 1, 1) := by decide +kernel
theorem dX11_count_6 : decode cX11_count 6 = .ok (.i2l, 1) := by decide +kernel
theorem dX11_count_7 : decode cX11_count 7 = .ok (.ldc2_w 301, 3) := by decide +kernel
theorem dX11_count_10 : decode cX11_count 10 = .ok (.ldc2_w 450, 3) := by decide +kernel
theorem dX11_count_13 : decode cX11_count 13 = .ok (.invokestatic 143, 3) := by decide +kernel
theorem dX11_count_16 : decode cX11_count 16 = .ok (.ifCond .eq 91, 3) := by decide +kernel
theorem dX11_count_19 : decode cX11_count 19 = .ok (.aload_n 0, 1) := by decide +kernel
theorem dX11_count_20 : decode cX11_count 20 = .ok (.iload_n 2, 1) := by decide +kernel
theorem dX11_count_21 : decode cX11_count 21 = .ok (.invokevirtual 310, 3) := by decide +kernel
theorem dX11_count_24 : decode cX11_count 24 = .ok (.ifCond .eq 83, 3) := by decide +kernel
theorem dX11_count_27 : decode cX11_count 27 = .ok (.iload_n 1, 1) := by decide +kernel
theorem dX11_count_28 : decode cX11_count 28 = .ok (.bipush 30, 2) := by decide +kernel
theorem dX11_count_30 : decode cX11_count 30 = .ok (.if_icmp .lt 10, 3) := by decide +kernel
theorem dX11_count_33 : decode cX11_count 33 = .ok (.aload_n 0, 1) := by decide +kernel
theorem dX11_count_34 : decode cX11_count 34 = .ok (.getfield 76, 3) := by decide +kernel
theorem dX11_count_37 : decode cX11_count 37 = .ok (.iload_n 2, 1) := by decide +kernel
theorem dX11_count_38 : decode cX11_count 38 = .ok (.iaload, 1) := by decide +kernel
theorem dX11_count_39 : decode cX11_count 39 = .ok (.ireturn, 1) := by decide +kernel
theorem dX11_count_40 : decode cX11_count 40 = .ok (.iconst 0, 1) := by decide +kernel
theorem dX11_count_41 : decode cX11_count 41 = .ok (.istore_n 3, 1) := by decide +kernel
theorem dX11_count_42 : decode cX11_count 42 = .ok (.iconst 0, 1) := by decide +kernel
theorem dX11_count_43 : decode cX11_count 43 = .ok (.istore 4, 2) := by decide +kernel
theorem dX11_count_45 : decode cX11_count 45 = .ok (.iload 4, 2) := by decide +kernel
theorem dX11_count_47 : decode cX11_count 47 = .ok (.aload_n 0, 1) := by decide +kernel
theorem dX11_count_48 : decode cX11_count 48 = .ok (.getfield 32, 3) := by decide +kernel
theorem dX11_count_51 : decode cX11_count 51 = .ok (.iload_n 2, 1) := by decide +kernel
theorem dX11_count_52 : decode cX11_count 52 = .ok (.iaload, 1) := by decide +kernel
theorem dX11_count_53 : decode cX11_count 53 = .ok (.if_icmp .ge 52, 3) := by decide +kernel
theorem dX11_count_56 : decode cX11_count 56 = .ok (.iload_n 3, 1) := by decide +kernel
theorem dX11_count_57 : decode cX11_count 57 = .ok (.iload_n 1, 1) := by decide +kernel
theorem dX11_count_58 : decode cX11_count 58 = .ok (.bipush 20, 2) := by decide +kernel
theorem dX11_count_60 : decode cX11_count 60 = .ok (.if_icmp .ge 19, 3) := by decide +kernel
theorem dX11_count_63 : decode cX11_count 63 = .ok (.aload_n 0, 1) := by decide +kernel
theorem dX11_count_64 : decode cX11_count 64 = .ok (.iload_n 2, 1) := by decide +kernel
theorem dX11_count_65 : decode cX11_count 65 = .ok (.iload 4, 2) := by decide +kernel
theorem dX11_count_67 : decode cX11_count 67 = .ok (.invokestatic 316, 3) := by decide +kernel
theorem dX11_count_70 : decode cX11_count 70 = .ok (.invokevirtual 332, 3) := by decide +kernel
theorem dX11_count_73 : decode cX11_count 73 = .ok (.ifCond .eq 23, 3) := by decide +kernel
theorem dX11_count_76 : decode cX11_count 76 = .ok (.goto 16, 3) := by decide +kernel
theorem dX11_count_79 : decode cX11_count 79 = .ok (.aload_n 0, 1) := by decide +kernel
theorem dX11_count_80 : decode cX11_count 80 = .ok (.iload_n 2, 1) := by decide +kernel
theorem dX11_count_81 : decode cX11_count 81 = .ok (.iload 4, 2) := by decide +kernel
theorem dX11_count_83 : decode cX11_count 83 = .ok (.invokestatic 316, 3) := by decide +kernel
theorem dX11_count_86 : decode cX11_count 86 = .ok (.invokevirtual 441, 3) := by decide +kernel
theorem dX11_count_89 : decode cX11_count 89 = .ok (.ifCond .eq 7, 3) := by decide +kernel
theorem dX11_count_92 : decode cX11_count 92 = .ok (.iconst 1, 1) := by decide +kernel
theorem dX11_count_93 : decode cX11_count 93 = .ok (.goto 4, 3) := by decide +kernel
theorem dX11_count_96 : decode cX11_count 96 = .ok (.iconst 0, 1) := by decide +kernel
theorem dX11_count_97 : decode cX11_count 97 = .ok (.iadd, 1) := by decide +kernel
theorem dX11_count_98 : decode cX11_count 98 = .ok (.istore_n 3, 1) := by decide +kernel
theorem dX11_count_99 : decode cX11_count 99 = .ok (.iinc 4 1, 3) := by decide +kernel
theorem dX11_count_102 : decode cX11_count 102 = .ok (.goto (-57), 3) := by decide +kernel
theorem dX11_count_105 : decode cX11_count 105 = .ok (.iload_n 3, 1) := by decide +kernel
theorem dX11_count_106 : decode cX11_count 106 = .ok (.ireturn, 1) := by decide +kernel
theorem dX11_count_107 : decode cX11_count 107 = .ok (.iload_n 1, 1) := by decide +kernel
theorem dX11_count_108 : decode cX11_count 108 = .ok (.tableswitch 88 0 7 #[48, 53, 58, 63, 68, 73, 78, 83], 48) := by decide +kernel
theorem dX11_count_156 : decode cX11_count 156 = .ok (.aload_n 0, 1) := by decide +kernel
theorem dX11_count_157 : decode cX11_count 157 = .ok (.getfield 287, 3) := by decide +kernel
theorem dX11_count_160 : decode cX11_count 160 = .ok (.ireturn, 1) := by decide +kernel
theorem dX11_count_161 : decode cX11_count 161 = .ok (.aload_n 0, 1) := by decide +kernel
theorem dX11_count_162 : decode cX11_count 162 = .ok (.getfield 239, 3) := by decide +kernel
theorem dX11_count_165 : decode cX11_count 165 = .ok (.ireturn, 1) := by decide +kernel
theorem dX11_count_166 : decode cX11_count 166 = .ok (.aload_n 0, 1) := by decide +kernel
theorem dX11_count_167 : decode cX11_count 167 = .ok (.getfield 298, 3) := by decide +kernel
theorem dX11_count_170 : decode cX11_count 170 = .ok (.ireturn, 1) := by decide +kernel
theorem dX11_count_171 : decode cX11_count 171 = .ok (.aload_n 0, 1) := by decide +kernel
theorem dX11_count_172 : decode cX11_count 172 = .ok (.getfield 319, 3) := by decide +kernel
theorem dX11_count_175 : decode cX11_count 175 = .ok (.ireturn, 1) := by decide +kernel
theorem dX11_count_176 : decode cX11_count 176 = .ok (.aload_n 0, 1) := by decide +kernel
theorem dX11_count_177 : decode cX11_count 177 = .ok (.getfield 325, 3) := by decide +kernel
theorem dX11_count_180 : decode cX11_count 180 = .ok (.ireturn, 1) := by decide +kernel
theorem dX11_count_181 : decode cX11_count 181 = .ok (.aload_n 0, 1) := by decide +kernel
theorem dX11_count_182 : decode cX11_count 182 = .ok (.getfield 388, 3) := by decide +kernel
theorem dX11_count_185 : decode cX11_count 185 = .ok (.ireturn, 1) := by decide +kernel
theorem dX11_count_186 : decode cX11_count 186 = .ok (.aload_n 0, 1) := by decide +kernel
theorem dX11_count_187 : decode cX11_count 187 = .ok (.getfield 430, 3) := by decide +kernel
theorem dX11_count_190 : decode cX11_count 190 = .ok (.ireturn, 1) := by decide +kernel
theorem dX11_count_191 : decode cX11_count 191 = .ok (.aload_n 0, 1) := by decide +kernel
theorem dX11_count_192 : decode cX11_count 192 = .ok (.getfield 140, 3) := by decide +kernel
theorem dX11_count_195 : decode cX11_count 195 = .ok (.ireturn, 1) := by decide +kernel
theorem dX11_count_196 : decode cX11_count 196 = .ok (.iconst (-1), 1) := by decide +kernel
theorem dX11_count_197 : decode cX11_count 197 = .ok (.ireturn, 1) := by decide +kernel
theorem dJ6_bitCount_0f7a4_0 : decode cJ6_bitCount_0f7a4 0 = .ok (.iload_n 0, 1) := by decide +kernel
theorem dJ6_bitCount_0f7a4_1 : decode cJ6_bitCount_0f7a4 1 = .ok (.iload_n 0, 1) := by decide +kernel
theorem dJ6_bitCount_0f7a4_2 : decode cJ6_bitCount_0f7a4 2 = .ok (.iconst 1, 1) := by decide +kernel
theorem dJ6_bitCount_0f7a4_3 : decode cJ6_bitCount_0f7a4 3 = .ok (.iushr, 1) := by decide +kernel
theorem dJ6_bitCount_0f7a4_4 : decode cJ6_bitCount_0f7a4 4 = .ok (.ldc_w 265, 3) := by decide +kernel
theorem dJ6_bitCount_0f7a4_7 : decode cJ6_bitCount_0f7a4 7 = .ok (.iand, 1) := by decide +kernel
theorem dJ6_bitCount_0f7a4_8 : decode cJ6_bitCount_0f7a4 8 = .ok (.isub, 1) := by decide +kernel
theorem dJ6_bitCount_0f7a4_9 : decode cJ6_bitCount_0f7a4 9 = .ok (.istore_n 0, 1) := by decide +kernel
theorem dJ6_bitCount_0f7a4_10 : decode cJ6_bitCount_0f7a4 10 = .ok (.iload_n 0, 1) := by decide +kernel
theorem dJ6_bitCount_0f7a4_11 : decode cJ6_bitCount_0f7a4 11 = .ok (.ldc_w 266, 3) := by decide +kernel
theorem dJ6_bitCount_0f7a4_14 : decode cJ6_bitCount_0f7a4 14 = .ok (.iand, 1) := by decide +kernel
theorem dJ6_bitCount_0f7a4_15 : decode cJ6_bitCount_0f7a4 15 = .ok (.iload_n 0, 1) := by decide +kernel
theorem dJ6_bitCount_0f7a4_16 : decode cJ6_bitCount_0f7a4 16 = .ok (.iconst 2, 1) := by decide +kernel
theorem dJ6_bitCount_0f7a4_17 : decode cJ6_bitCount_0f7a4 17 = .ok (.iushr, 1) := by decide +kernel
theorem dJ6_bitCount_0f7a4_18 : decode cJ6_bitCount_0f7a4 18 = .ok (.ldc_w 266, 3) := by decide +kernel
theorem dJ6_bitCount_0f7a4_21 : decode cJ6_bitCount_0f7a4 21 = .ok (.iand, 1) := by decide +kernel
theorem dJ6_bitCount_0f7a4_22 : decode cJ6_bitCount_0f7a4 22 = .ok (.iadd, 1) := by decide +kernel
theorem dJ6_bitCount_0f7a4_23 : decode cJ6_bitCount_0f7a4 23 = .ok (.istore_n 0, 1) := by decide +kernel
theorem dJ6_bitCount_0f7a4_24 : decode cJ6_bitCount_0f7a4 24 = .ok (.iload_n 0, 1) := by decide +kernel
theorem dJ6_bitCount_0f7a4_25 : decode cJ6_bitCount_0f7a4 25 = .ok (.iload_n 0, 1) := by decide +kernel
theorem dJ6_bitCount_0f7a4_26 : decode cJ6_bitCount_0f7a4 26 = .ok (.iconst 4, 1) := by decide +kernel
theorem dJ6_bitCount_0f7a4_27 : decode cJ6_bitCount_0f7a4 27 = .ok (.iushr, 1) := by decide +kernel
theorem dJ6_bitCount_0f7a4_28 : decode cJ6_bitCount_0f7a4 28 = .ok (.iadd, 1) := by decide +kernel
theorem dJ6_bitCount_0f7a4_29 : decode cJ6_bitCount_0f7a4 29 = .ok (.ldc_w 267, 3) := by decide +kernel
theorem dJ6_bitCount_0f7a4_32 : decode cJ6_bitCount_0f7a4 32 = .ok (.iand, 1) := by decide +kernel
theorem dJ6_bitCount_0f7a4_33 : decode cJ6_bitCount_0f7a4 33 = .ok (.istore_n 0, 1) := by decide +kernel
theorem dJ6_bitCount_0f7a4_34 : decode cJ6_bitCount_0f7a4 34 = .ok (.iload_n 0, 1) := by decide +kernel
theorem dJ6_bitCount_0f7a4_35 : decode cJ6_bitCount_0f7a4 35 = .ok (.iload_n 0, 1) := by decide +kernel
theorem dJ6_bitCount_0f7a4_36 : decode cJ6_bitCount_0f7a4 36 = .ok (.bipush 8, 2) := by decide +kernel
theorem dJ6_bitCount_0f7a4_38 : decode cJ6_bitCount_0f7a4 38 = .ok (.iushr, 1) := by decide +kernel
theorem dJ6_bitCount_0f7a4_39 : decode cJ6_bitCount_0f7a4 39 = .ok (.iadd, 1) := by decide +kernel
theorem dJ6_bitCount_0f7a4_40 : decode cJ6_bitCount_0f7a4 40 = .ok (.istore_n 0, 1) := by decide +kernel
theorem dJ6_bitCount_0f7a4_41 : decode cJ6_bitCount_0f7a4 41 = .ok (.iload_n 0, 1) := by decide +kernel
theorem dJ6_bitCount_0f7a4_42 : decode cJ6_bitCount_0f7a4 42 = .ok (.iload_n 0, 1) := by decide +kernel
theorem dJ6_bitCount_0f7a4_43 : decode cJ6_bitCount_0f7a4 43 = .ok (.bipush 16, 2) := by decide +kernel
theorem dJ6_bitCount_0f7a4_45 : decode cJ6_bitCount_0f7a4 45 = .ok (.iushr, 1) := by decide +kernel
theorem dJ6_bitCount_0f7a4_46 : decode cJ6_bitCount_0f7a4 46 = .ok (.iadd, 1) := by decide +kernel
theorem dJ6_bitCount_0f7a4_47 : decode cJ6_bitCount_0f7a4 47 = .ok (.istore_n 0, 1) := by decide +kernel
theorem dJ6_bitCount_0f7a4_48 : decode cJ6_bitCount_0f7a4 48 = .ok (.iload_n 0, 1) := by decide +kernel
theorem dJ6_bitCount_0f7a4_49 : decode cJ6_bitCount_0f7a4 49 = .ok (.bipush 63, 2) := by decide +kernel
theorem dJ6_bitCount_0f7a4_51 : decode cJ6_bitCount_0f7a4 51 = .ok (.iand, 1) := by decide +kernel
theorem dJ6_bitCount_0f7a4_52 : decode cJ6_bitCount_0f7a4 52 = .ok (.ireturn, 1) := by decide +kernel
theorem dJ13_compare_74951_0 : decode cJ13_compare_74951 0 = .ok (.lload_n 0, 1) := by decide +kernel
theorem dJ13_compare_74951_1 : decode cJ13_compare_74951 1 = .ok (.lload_n 2, 1) := by decide +kernel
theorem dJ13_compare_74951_2 : decode cJ13_compare_74951 2 = .ok (.lcmp, 1) := by decide +kernel
theorem dJ13_compare_74951_3 : decode cJ13_compare_74951 3 = .ok (.ifCond .ge 7, 3) := by decide +kernel
theorem dJ13_compare_74951_6 : decode cJ13_compare_74951 6 = .ok (.iconst (-1), 1) := by decide +kernel
theorem dJ13_compare_74951_7 : decode cJ13_compare_74951 7 = .ok (.goto 14, 3) := by decide +kernel
theorem dJ13_compare_74951_10 : decode cJ13_compare_74951 10 = .ok (.lload_n 0, 1) := by decide +kernel
theorem dJ13_compare_74951_11 : decode cJ13_compare_74951 11 = .ok (.lload_n 2, 1) := by decide +kernel
theorem dJ13_compare_74951_12 : decode cJ13_compare_74951 12 = .ok (.lcmp, 1) := by decide +kernel
theorem dJ13_compare_74951_13 : decode cJ13_compare_74951 13 = .ok (.ifCond .ne 7, 3) := by decide +kernel
theorem dJ13_compare_74951_16 : decode cJ13_compare_74951 16 = .ok (.iconst 0, 1) := by decide +kernel
theorem dJ13_compare_74951_17 : decode cJ13_compare_74951 17 = .ok (.goto 4, 3) := by decide +kernel
theorem dJ13_compare_74951_20 : decode cJ13_compare_74951 20 = .ok (.iconst 1, 1) := by decide +kernel
theorem dJ13_compare_74951_21 : decode cJ13_compare_74951 21 = .ok (.ireturn, 1) := by decide +kernel
theorem dJ9_floorDiv_f86c9_0 : decode cJ9_floorDiv_f86c9 0 = .ok (.lload_n 0, 1) := by decide +kernel
theorem dJ9_floorDiv_f86c9_1 : decode cJ9_floorDiv_f86c9 1 = .ok (.lload_n 2, 1) := by decide +kernel
theorem dJ9_floorDiv_f86c9_2 : decode cJ9_floorDiv_f86c9 2 = .ok (.ldiv, 1) := by decide +kernel
theorem dJ9_floorDiv_f86c9_3 : decode cJ9_floorDiv_f86c9 3 = .ok (.lstore 4, 2) := by decide +kernel
theorem dJ9_floorDiv_f86c9_5 : decode cJ9_floorDiv_f86c9 5 = .ok (.lload_n 0, 1) := by decide +kernel
theorem dJ9_floorDiv_f86c9_6 : decode cJ9_floorDiv_f86c9 6 = .ok (.lload_n 2, 1) := by decide +kernel
theorem dJ9_floorDiv_f86c9_7 : decode cJ9_floorDiv_f86c9 7 = .ok (.lxor, 1) := by decide +kernel
theorem dJ9_floorDiv_f86c9_8 : decode cJ9_floorDiv_f86c9 8 = .ok (.lconst 0, 1) := by decide +kernel
theorem dJ9_floorDiv_f86c9_9 : decode cJ9_floorDiv_f86c9 9 = .ok (.lcmp, 1) := by decide +kernel
theorem dJ9_floorDiv_f86c9_10 : decode cJ9_floorDiv_f86c9 10 = .ok (.ifCond .ge 17, 3) := by decide +kernel
theorem dJ9_floorDiv_f86c9_13 : decode cJ9_floorDiv_f86c9 13 = .ok (.lload 4, 2) := by decide +kernel
theorem dJ9_floorDiv_f86c9_15 : decode cJ9_floorDiv_f86c9 15 = .ok (.lload_n 2, 1) := by decide +kernel
theorem dJ9_floorDiv_f86c9_16 : decode cJ9_floorDiv_f86c9 16 = .ok (.lmul, 1) := by decide +kernel
theorem dJ9_floorDiv_f86c9_17 : decode cJ9_floorDiv_f86c9 17 = .ok (.lload_n 0, 1) := by decide +kernel
theorem dJ9_floorDiv_f86c9_18 : decode cJ9_floorDiv_f86c9 18 = .ok (.lcmp, 1) := by decide +kernel
theorem dJ9_floorDiv_f86c9_19 : decode cJ9_floorDiv_f86c9 19 = .ok (.ifCond .eq 8, 3) := by decide +kernel
theorem dJ9_floorDiv_f86c9_22 : decode cJ9_floorDiv_f86c9 22 = .ok (.lload 4, 2) := by decide +kernel
theorem dJ9_floorDiv_f86c9_24 : decode cJ9_floorDiv_f86c9 24 = .ok (.lconst 1, 1) := by decide +kernel
theorem dJ9_floorDiv_f86c9_25 : decode cJ9_floorDiv_f86c9 25 = .ok (.lsub, 1) := by decide +kernel
theorem dJ9_floorDiv_f86c9_26 : decode cJ9_floorDiv_f86c9 26 = .ok (.lreturn, 1) := by decide +kernel
theorem dJ9_floorDiv_f86c9_27 : decode cJ9_floorDiv_f86c9 27 = .ok (.lload 4, 2) := by decide +kernel
theorem dJ9_floorDiv_f86c9_29 : decode cJ9_floorDiv_f86c9 29 = .ok (.lreturn, 1) := by decide +kernel
theorem dJ9_floorMod_f86c9_0 : decode cJ9_floorMod_f86c9 0 = .ok (.lload_n 0, 1) := by decide +kernel
theorem dJ9_floorMod_f86c9_1 : decode cJ9_floorMod_f86c9 1 = .ok (.lload_n 2, 1) := by decide +kernel
theorem dJ9_floorMod_f86c9_2 : decode cJ9_floorMod_f86c9 2 = .ok (.lrem, 1) := by decide +kernel
theorem dJ9_floorMod_f86c9_3 : decode cJ9_floorMod_f86c9 3 = .ok (.lstore 4, 2) := by decide +kernel
theorem dJ9_floorMod_f86c9_5 : decode cJ9_floorMod_f86c9 5 = .ok (.lload_n 0, 1) := by decide +kernel
theorem dJ9_floorMod_f86c9_6 : decode cJ9_floorMod_f86c9 6 = .ok (.lload_n 2, 1) := by decide +kernel
theorem dJ9_floorMod_f86c9_7 : decode cJ9_floorMod_f86c9 7 = .ok (.lxor, 1) := by decide +kernel
theorem dJ9_floorMod_f86c9_8 : decode cJ9_floorMod_f86c9 8 = .ok (.lconst 0, 1) := by decide +kernel
theorem dJ9_floorMod_f86c9_9 : decode cJ9_floorMod_f86c9 9 = .ok (.lcmp, 1) := by decide +kernel
theorem dJ9_floorMod_f86c9_10 : decode cJ9_floorMod_f86c9 10 = .ok (.ifCond .ge 15, 3) := by decide +kernel
theorem dJ9_floorMod_f86c9_13 : decode cJ9_floorMod_f86c9 13 = .ok (.lload 4, 2) := by decide +kernel
theorem dJ9_floorMod_f86c9_15 : decode cJ9_floorMod_f86c9 15 = .ok (.lconst 0, 1) := by decide +kernel
theorem dJ9_floorMod_f86c9_16 : decode cJ9_floorMod_f86c9 16 = .ok (.lcmp, 1) := by decide +kernel
theorem dJ9_floorMod_f86c9_17 : decode cJ9_floorMod_f86c9 17 = .ok (.ifCond .eq 8, 3) := by decide +kernel
theorem dJ9_floorMod_f86c9_20 : decode cJ9_floorMod_f86c9 20 = .ok (.lload 4, 2) := by decide +kernel
theorem dJ9_floorMod_f86c9_22 : decode cJ9_floorMod_f86c9 22 = .ok (.lload_n 2, 1) := by decide +kernel
theorem dJ9_floorMod_f86c9_23 : decode cJ9_floorMod_f86c9 23 = .ok (.ladd, 1) := by decide +kernel
theorem dJ9_floorMod_f86c9_24 : decode cJ9_floorMod_f86c9 24 = .ok (.lreturn, 1) := by decide +kernel
theorem dJ9_floorMod_f86c9_25 : decode cJ9_floorMod_f86c9 25 = .ok (.lload 4, 2) := by decide +kernel
theorem dJ9_floorMod_f86c9_27 : decode cJ9_floorMod_f86c9 27 = .ok (.lreturn, 1) := by decide +kernel
theorem dJ9_abs_0f7a4_0 : decode cJ9_abs_0f7a4 0 = .ok (.iload_n 0, 1) := by decide +kernel
theorem dJ9_abs_0f7a4_1 : decode cJ9_abs_0f7a4 1 = .ok (.ifCond .ge 8, 3) := by decide +kernel
theorem dJ9_abs_0f7a4_4 : decode cJ9_abs_0f7a4 4 = .ok (.iload_n 0, 1) := by decide +kernel
theorem dJ9_abs_0f7a4_5 : decode cJ9_abs_0f7a4 5 = .ok (.ineg, 1) := by decide +kernel
theorem dJ9_abs_0f7a4_6 : decode cJ9_abs_0f7a4 6 = .ok (.goto 4, 3) := by decide +kernel
theorem dJ9_abs_0f7a4_9 : decode cJ9_abs_0f7a4 9 = .ok (.iload_n 0, 1) := by decide +kernel
theorem dJ9_abs_0f7a4_10 : decode cJ9_abs_0f7a4 10 = .ok (.ireturn, 1) := by decide +kernel
theorem dJ9_abs_067f4_0 : decode cJ9_abs_067f4 0 = .ok (.lload_n 0, 1) := by decide +kernel
theorem dJ9_abs_067f4_1 : decode cJ9_abs_067f4 1 = .ok (.lconst 0, 1) := by decide +kernel
theorem dJ9_abs_067f4_2 : decode cJ9_abs_067f4 2 = .ok (.lcmp, 1) := by decide +kernel
theorem dJ9_abs_067f4_3 : decode cJ9_abs_067f4 3 = .ok (.ifCond .ge 8, 3) := by decide +kernel
theorem dJ9_abs_067f4_6 : decode cJ9_abs_067f4 6 = .ok (.lload_n 0, 1) := by decide +kernel
theorem dJ9_abs_067f4_7 : decode cJ9_abs_067f4 7 = .ok (.lneg, 1) := by decide +kernel
theorem dJ9_abs_067f4_8 : decode cJ9_abs_067f4 8 = .ok (.goto 4, 3) := by decide +kernel
theorem dJ9_abs_067f4_11 : decode cJ9_abs_067f4 11 = .ok (.lload_n 0, 1) := by decide +kernel
theorem dJ9_abs_067f4_12 : decode cJ9_abs_067f4 12 = .ok (.lreturn, 1) := by decide +kernel
theorem dJ9_max_7cf53_0 : decode cJ9_max_7cf53 0 = .ok (.iload_n 0, 1) := by decide +kernel
theorem dJ9_max_7cf53_1 : decode cJ9_max_7cf53 1 = .ok (.iload_n 1, 1) := by decide +kernel
theorem dJ9_max_7cf53_2 : decode cJ9_max_7cf53 2 = .ok (.if_icmp .lt 7, 3) := by decide +kernel
theorem dJ9_max_7cf53_5 : decode cJ9_max_7cf53 5 = .ok (.iload_n 0, 1) := by decide +kernel
theorem dJ9_max_7cf53_6 : decode cJ9_max_7cf53 6 = .ok (.goto 4, 3) := by decide +kernel
theorem dJ9_max_7cf53_9 : decode cJ9_max_7cf53 9 = .ok (.iload_n 1, 1) := by decide +kernel
theorem dJ9_max_7cf53_10 : decode cJ9_max_7cf53 10 = .ok (.ireturn, 1) := by decide +kernel
theorem dJ9_min_7cf53_0 : decode cJ9_min_7cf53 0 = .ok (.iload_n 0, 1) := by decide +kernel
theorem dJ9_min_7cf53_1 : decode cJ9_min_7cf53 1 = .ok (.iload_n 1, 1) := by decide +kernel
theorem dJ9_min_7cf53_2 : decode cJ9_min_7cf53 2 = .ok (.if_icmp .gt 7, 3) := by decide +kernel
theorem dJ9_min_7cf53_5 : decode cJ9_min_7cf53 5 = .ok (.iload_n 0, 1) := by decide +kernel
theorem dJ9_min_7cf53_6 : decode cJ9_min_7cf53 6 = .ok (.goto 4, 3) := by decide +kernel
theorem dJ9_min_7cf53_9 : decode cJ9_min_7cf53 9 = .ok (.iload_n 1, 1) := by decide +kernel
theorem dJ9_min_7cf53_10 : decode cJ9_min_7cf53 10 = .ok (.ireturn, 1) := by decide +kernel
theorem dJ0_length_8abf5_0 : decode cJ0_length_8abf5 0 = .ok (.aload_n 0, 1) := by decide +kernel
theorem dJ0_length_8abf5_1 : decode cJ0_length_8abf5 1 = .ok (.getfield 9, 3) := by decide +kernel
theorem dJ0_length_8abf5_4 : decode cJ0_length_8abf5 4 = .ok (.arraylength, 1) := by decide +kernel
theorem dJ0_length_8abf5_5 : decode cJ0_length_8abf5 5 = .ok (.aload_n 0, 1) := by decide +kernel
theorem dJ0_length_8abf5_6 : decode cJ0_length_8abf5 6 = .ok (.invokevirtual 335, 3) := by decide +kernel
theorem dJ0_length_8abf5_9 : decode cJ0_length_8abf5 9 = .ok (.ishr, 1) := by decide +kernel
theorem dJ0_length_8abf5_10 : decode cJ0_length_8abf5 10 = .ok (.ireturn, 1) := by decide +kernel
theorem dJ0_charAt_5068e_0 : decode cJ0_charAt_5068e 0 = .ok (.aload_n 0, 1) := by decide +kernel
theorem dJ0_charAt_5068e_1 : decode cJ0_charAt_5068e 1 = .ok (.invokevirtual 492, 3) := by decide +kernel
theorem dJ0_charAt_5068e_4 : decode cJ0_charAt_5068e 4 = .ok (.ifCond .eq 12, 3) := by decide +kernel
theorem dJ0_charAt_5068e_7 : decode cJ0_charAt_5068e 7 = .ok (.aload_n 0, 1) := by decide +kernel
theorem dJ0_charAt_5068e_8 : decode cJ0_charAt_5068e 8 = .ok (.getfield 9, 3) := by decide +kernel
theorem dJ0_charAt_5068e_11 : decode cJ0_charAt_5068e 11 = .ok (.iload_n 1, 1) := by decide +kernel
theorem dJ0_charAt_5068e_12 : decode cJ0_charAt_5068e 12 = .ok (.invokestatic 495, 3) := by decide +kernel
theorem dJ0_charAt_5068e_15 : decode cJ0_charAt_5068e 15 = .ok (.ireturn, 1) := by decide +kernel
theorem dJ0_charAt_5068e_16 : decode cJ0_charAt_5068e 16 = .ok (.aload_n 0, 1) := by decide +kernel
theorem dJ0_charAt_5068e_17 : decode cJ0_charAt_5068e 17 = .ok (.getfield 9, 3) := by decide +kernel
theorem dJ0_charAt_5068e_20 : decode cJ0_charAt_5068e 20 = .ok (.iload_n 1, 1) := by decide +kernel
theorem dJ0_charAt_5068e_21 : decode cJ0_charAt_5068e 21 = .ok (.invokestatic 498, 3) := by decide +kernel
theorem dJ0_charAt_5068e_24 : decode cJ0_charAt_5068e 24 = .ok (.ireturn, 1) := by decide +kernel
theorem dJ0_indexOf_0f7a4_0 : decode cJ0_indexOf_0f7a4 0 = .ok (.aload_n 0, 1) := by decide +kernel
theorem dJ0_indexOf_0f7a4_1 : decode cJ0_indexOf_0f7a4 1 = .ok (.iload_n 1, 1) := by decide +kernel
theorem dJ0_indexOf_0f7a4_2 : decode cJ0_indexOf_0f7a4 2 = .ok (.iconst 0, 1) := by decide +kernel
theorem dJ0_indexOf_0f7a4_3 : decode cJ0_indexOf_0f7a4 3 = .ok (.invokevirtual 633, 3) := by decide +kernel
theorem dJ0_indexOf_0f7a4_6 : decode cJ0_indexOf_0f7a4 6 = .ok (.ireturn, 1) := by decide +kernel
theorem dJ0_indexOf_7cf53_0 : decode cJ0_indexOf_7cf53 0 = .ok (.aload_n 0, 1) := by decide +kernel
theorem dJ0_indexOf_7cf53_1 : decode cJ0_indexOf_7cf53 1 = .ok (.invokevirtual 492, 3) := by decide +kernel
theorem dJ0_indexOf_7cf53_4 : decode cJ0_indexOf_7cf53 4 = .ok (.ifCond .eq 19, 3) := by decide +kernel
theorem dJ0_indexOf_7cf53_7 : decode cJ0_indexOf_7cf53 7 = .ok (.aload_n 0, 1) := by decide +kernel
theorem dJ0_indexOf_7cf53_8 : decode cJ0_indexOf_7cf53 8 = .ok (.getfield 9, 3) := by decide +kernel
theorem dJ0_indexOf_7cf53_11 : decode cJ0_indexOf_7cf53 11 = .ok (.iload_n 1, 1) := by decide +kernel
theorem dJ0_indexOf_7cf53_12 : decode cJ0_indexOf_7cf53 12 = .ok (.iload_n 2, 1) := by decide +kernel
theorem dJ0_indexOf_7cf53_13 : decode cJ0_indexOf_7cf53 13 = .ok (.aload_n 0, 1) := by decide +kernel
theorem dJ0_indexOf_7cf53_14 : decode cJ0_indexOf_7cf53 14 = .ok (.invokevirtual 505, 3) := by decide +kernel
theorem dJ0_indexOf_7cf53_17 : decode cJ0_indexOf_7cf53 17 = .ok (.invokestatic 637, 3) := by decide +kernel
theorem dJ0_indexOf_7cf53_20 : decode cJ0_indexOf_7cf53 20 = .ok (.goto 16, 3) := by decide +kernel
theorem dJ0_indexOf_7cf53_23 : decode cJ0_indexOf_7cf53 23 = .ok (.aload_n 0, 1) := by decide +kernel
theorem dJ0_indexOf_7cf53_24 : decode cJ0_indexOf_7cf53 24 = .ok (.getfield 9, 3) := by decide +kernel
theorem dJ0_indexOf_7cf53_27 : decode cJ0_indexOf_7cf53 27 = .ok (.iload_n 1, 1) := by decide +kernel
theorem dJ0_indexOf_7cf53_28 : decode cJ0_indexOf_7cf53 28 = .ok (.iload_n 2, 1) := by decide +kernel
theorem dJ0_indexOf_7cf53_29 : decode cJ0_indexOf_7cf53 29 = .ok (.aload_n 0, 1) := by decide +kernel
theorem dJ0_indexOf_7cf53_30 : decode cJ0_indexOf_7cf53 30 = .ok (.invokevirtual 505, 3) := by decide +kernel
theorem dJ0_indexOf_7cf53_33 : decode cJ0_indexOf_7cf53 33 = .ok (.invokestatic 640, 3) := by decide +kernel
theorem dJ0_indexOf_7cf53_36 : decode cJ0_indexOf_7cf53 36 = .ok (.ireturn, 1) := by decide +kernel
theorem dJ0_coder_7d493_0 : decode cJ0_coder_7d493 0 = .ok (.getstatic 38, 3) := by decide +kernel
theorem dJ0_coder_7d493_3 : decode cJ0_coder_7d493 3 = .ok (.ifCond .eq 10, 3) := by decide +kernel
theorem dJ0_coder_7d493_6 : decode cJ0_coder_7d493 6 = .ok (.aload_n 0, 1) := by decide +kernel
theorem dJ0_coder_7d493_7 : decode cJ0_coder_7d493 7 = .ok (.getfield 15, 3) := by decide +kernel
theorem dJ0_coder_7d493_10 : decode cJ0_coder_7d493 10 = .ok (.goto 4, 3) := by decide +kernel
theorem dJ0_coder_7d493_13 : decode cJ0_coder_7d493 13 = .ok (.iconst 1, 1) := by decide +kernel
theorem dJ0_coder_7d493_14 : decode cJ0_coder_7d493 14 = .ok (.ireturn, 1) := by decide +kernel
theorem dJ0_isLatin1_aae02_0 : decode cJ0_isLatin1_aae02 0 = .ok (.getstatic 38, 3) := by decide +kernel
theorem dJ0_isLatin1_aae02_3 : decode cJ0_isLatin1_aae02 3 = .ok (.ifCond .eq 14, 3) := by decide +kernel
theorem dJ0_isLatin1_aae02_6 : decode cJ0_isLatin1_aae02 6 = .ok (.aload_n 0, 1) := by decide +kernel
theorem dJ0_isLatin1_aae02_7 : decode cJ0_isLatin1_aae02 7 = .ok (.getfield 15, 3) := by decide +kernel
theorem dJ0_isLatin1_aae02_10 : decode cJ0_isLatin1_aae02 10 = .ok (.ifCond .ne 7, 3) := by decide +kernel
theorem dJ0_isLatin1_aae02_13 : decode cJ0_isLatin1_aae02 13 = .ok (.iconst 1, 1) := by decide +kernel
theorem dJ0_isLatin1_aae02_14 : decode cJ0_isLatin1_aae02 14 = .ok (.goto 4, 3) := by decide +kernel
theorem dJ0_isLatin1_aae02_17 : decode cJ0_isLatin1_aae02 17 = .ok (.iconst 0, 1) := by decide +kernel
theorem dJ0_isLatin1_aae02_18 : decode cJ0_isLatin1_aae02 18 = .ok (.ireturn, 1) := by decide +kernel
theorem dJ0_checkIndex_df160_0 : decode cJ0_checkIndex_df160 0 = .ok (.iload_n 0, 1) := by decide +kernel
theorem dJ0_checkIndex_df160_1 : decode cJ0_checkIndex_df160 1 = .ok (.iload_n 1, 1) := by decide +kernel
theorem dJ0_checkIndex_df160_2 : decode cJ0_checkIndex_df160 2 = .ok (.getstatic 1053, 3) := by decide +kernel
theorem dJ0_checkIndex_df160_5 : decode cJ0_checkIndex_df160 5 = .ok (.invokestatic 1059, 3) := by decide +kernel
theorem dJ0_checkIndex_df160_8 : decode cJ0_checkIndex_df160 8 = .ok (.pop, 1) := by decide +kernel
theorem dJ0_checkIndex_df160_9 : decode cJ0_checkIndex_df160 9 = .ok (.return_, 1) := by decide +kernel
theorem dJ0_checkBoundsBeginEnd_23922_0 : decode cJ0_checkBoundsBeginEnd_23922 0 = .ok (.iload_n 0, 1) := by decide +kernel
theorem dJ0_checkBoundsBeginEnd_23922_1 : decode cJ0_checkBoundsBeginEnd_23922 1 = .ok (.iload_n 1, 1) := by decide +kernel
theorem dJ0_checkBoundsBeginEnd_23922_2 : decode cJ0_checkBoundsBeginEnd_23922 2 = .ok (.iload_n 2, 1) := by decide +kernel
theorem dJ0_checkBoundsBeginEnd_23922_3 : decode cJ0_checkBoundsBeginEnd_23922 3 = .ok (.getstatic 1053, 3) := by decide +kernel
theorem dJ0_checkBoundsBeginEnd_23922_6 : decode cJ0_checkBoundsBeginEnd_23922 6 = .ok (.invokestatic 1062, 3) := by decide +kernel
theorem dJ0_checkBoundsBeginEnd_23922_9 : decode cJ0_checkBoundsBeginEnd_23922 9 = .ok (.pop, 1) := by decide +kernel
theorem dJ0_checkBoundsBeginEnd_23922_10 : decode cJ0_checkBoundsBeginEnd_23922 10 = .ok (.return_, 1) := by decide +kernel
theorem dJ1_charAt_3b067_0 : decode cJ1_charAt_3b067 0 = .ok (.iload_n 1, 1) := by decide +kernel
theorem dJ1_charAt_3b067_1 : decode cJ1_charAt_3b067 1 = .ok (.aload_n 0, 1) := by decide +kernel
theorem dJ1_charAt_3b067_2 : decode cJ1_charAt_3b067 2 = .ok (.arraylength, 1) := by decide +kernel
theorem dJ1_charAt_3b067_3 : decode cJ1_charAt_3b067 3 = .ok (.invokestatic 9, 3) := by decide +kernel
theorem dJ1_charAt_3b067_6 : decode cJ1_charAt_3b067 6 = .ok (.aload_n 0, 1) := by decide +kernel
theorem dJ1_charAt_3b067_7 : decode cJ1_charAt_3b067 7 = .ok (.iload_n 1, 1) := by decide +kernel
theorem dJ1_charAt_3b067_8 : decode cJ1_charAt_3b067 8 = .ok (.baload, 1) := by decide +kernel
theorem dJ1_charAt_3b067_9 : decode cJ1_charAt_3b067 9 = .ok (.sipush 255, 3) := by decide +kernel
theorem dJ1_charAt_3b067_12 : decode cJ1_charAt_3b067 12 = .ok (.iand, 1) := by decide +kernel
theorem dJ1_charAt_3b067_13 : decode cJ1_charAt_3b067 13 = .ok (.i2c, 1) := by decide +kernel
theorem dJ1_charAt_3b067_14 : decode cJ1_charAt_3b067 14 = .ok (.ireturn, 1) := by decide +kernel
theorem dJ1_canEncode_9a6ad_0 : decode cJ1_canEncode_9a6ad 0 = .ok (.iload_n 0, 1) := by decide +kernel
theorem dJ1_canEncode_9a6ad_1 : decode cJ1_canEncode_9a6ad 1 = .ok (.ifCond .lt 14, 3) := by decide +kernel
theorem dJ1_canEncode_9a6ad_4 : decode cJ1_canEncode_9a6ad 4 = .ok (.iload_n 0, 1) := by decide +kernel
theorem dJ1_canEncode_9a6ad_5 : decode cJ1_canEncode_9a6ad 5 = .ok (.sipush 255, 3) := by decide +kernel
theorem dJ1_canEncode_9a6ad_8 : decode cJ1_canEncode_9a6ad 8 = .ok (.if_icmp .gt 7, 3) := by decide +kernel
theorem dJ1_canEncode_9a6ad_11 : decode cJ1_canEncode_9a6ad 11 = .ok (.iconst 1, 1) := by decide +kernel
theorem dJ1_canEncode_9a6ad_12 : decode cJ1_canEncode_9a6ad 12 = .ok (.goto 4, 3) := by decide +kernel
theorem dJ1_canEncode_9a6ad_15 : decode cJ1_canEncode_9a6ad 15 = .ok (.iconst 0, 1) := by decide +kernel
theorem dJ1_canEncode_9a6ad_16 : decode cJ1_canEncode_9a6ad 16 = .ok (.ireturn, 1) := by decide +kernel
theorem dJ1_indexOf_4cfef_0 : decode cJ1_indexOf_4cfef 0 = .ok (.iload_n 1, 1) := by decide +kernel
theorem dJ1_indexOf_4cfef_1 : decode cJ1_indexOf_4cfef 1 = .ok (.invokestatic 88, 3) := by decide +kernel
theorem dJ1_indexOf_4cfef_4 : decode cJ1_indexOf_4cfef 4 = .ok (.ifCond .ne 5, 3) := by decide +kernel
theorem dJ1_indexOf_4cfef_7 : decode cJ1_indexOf_4cfef 7 = .ok (.iconst (-1), 1) := by decide +kernel
theorem dJ1_indexOf_4cfef_8 : decode cJ1_indexOf_4cfef 8 = .ok (.ireturn, 1) := by decide +kernel
theorem dJ1_indexOf_4cfef_9 : decode cJ1_indexOf_4cfef 9 = .ok (.iload_n 2, 1) := by decide +kernel
theorem dJ1_indexOf_4cfef_10 : decode cJ1_indexOf_4cfef 10 = .ok (.iconst 0, 1) := by decide +kernel
theorem dJ1_indexOf_4cfef_11 : decode cJ1_indexOf_4cfef 11 = .ok (.invokestatic 92, 3) := by decide +kernel
theorem dJ1_indexOf_4cfef_14 : decode cJ1_indexOf_4cfef 14 = .ok (.istore_n 2, 1) := by decide +kernel
theorem dJ1_indexOf_4cfef_15 : decode cJ1_indexOf_4cfef 15 = .ok (.iload_n 3, 1) := by decide +kernel
theorem dJ1_indexOf_4cfef_16 : decode cJ1_indexOf_4cfef 16 = .ok (.aload_n 0, 1) := by decide +kernel
theorem dJ1_indexOf_4cfef_17 : decode cJ1_indexOf_4cfef 17 = .ok (.arraylength, 1) := by decide +kernel
theorem dJ1_indexOf_4cfef_18 : decode cJ1_indexOf_4cfef 18 = .ok (.invokestatic 38, 3) := by decide +kernel
theorem dJ1_indexOf_4cfef_21 : decode cJ1_indexOf_4cfef 21 = .ok (.istore_n 3, 1) := by decide +kernel
theorem dJ1_indexOf_4cfef_22 : decode cJ1_indexOf_4cfef 22 = .ok (.iload_n 2, 1) := by decide +kernel
theorem dJ1_indexOf_4cfef_23 : decode cJ1_indexOf_4cfef 23 = .ok (.iload_n 3, 1) := by decide +kernel
theorem dJ1_indexOf_4cfef_24 : decode cJ1_indexOf_4cfef 24 = .ok (.if_icmp .lt 5, 3) := by decide +kernel
theorem dJ1_indexOf_4cfef_27 : decode cJ1_indexOf_4cfef 27 = .ok (.iconst (-1), 1) := by decide +kernel
theorem dJ1_indexOf_4cfef_28 : decode cJ1_indexOf_4cfef 28 = .ok (.ireturn, 1) := by decide +kernel
theorem dJ1_indexOf_4cfef_29 : decode cJ1_indexOf_4cfef 29 = .ok (.aload_n 0, 1) := by decide +kernel
theorem dJ1_indexOf_4cfef_30 : decode cJ1_indexOf_4cfef 30 = .ok (.iload_n 1, 1) := by decide +kernel
theorem dJ1_indexOf_4cfef_31 : decode cJ1_indexOf_4cfef 31 = .ok (.iload_n 2, 1) := by decide +kernel
theorem dJ1_indexOf_4cfef_32 : decode cJ1_indexOf_4cfef 32 = .ok (.iload_n 3, 1) := by decide +kernel
theorem dJ1_indexOf_4cfef_33 : decode cJ1_indexOf_4cfef 33 = .ok (.invokestatic 95, 3) := by decide +kernel
theorem dJ1_indexOf_4cfef_36 : decode cJ1_indexOf_4cfef 36 = .ok (.ireturn, 1) := by decide +kernel
theorem dJ1_indexOfChar_4cfef_0 : decode cJ1_indexOfChar_4cfef 0 = .ok (.iload_n 1, 1) := by decide +kernel
theorem dJ1_indexOfChar_4cfef_1 : decode cJ1_indexOfChar_4cfef 1 = .ok (.i2b, 1) := by decide +kernel
theorem dJ1_indexOfChar_4cfef_2 : decode cJ1_indexOfChar_4cfef 2 = .ok (.istore 4, 2) := by decide +kernel
theorem dJ1_indexOfChar_4cfef_4 : decode cJ1_indexOfChar_4cfef 4 = .ok (.iload_n 2, 1) := by decide +kernel
theorem dJ1_indexOfChar_4cfef_5 : decode cJ1_indexOfChar_4cfef 5 = .ok (.istore 5, 2) := by decide +kernel
theorem dJ1_indexOfChar_4cfef_7 : decode cJ1_indexOfChar_4cfef 7 = .ok (.iload 5, 2) := by decide +kernel
theorem dJ1_indexOfChar_4cfef_9 : decode cJ1_indexOfChar_4cfef 9 = .ok (.iload_n 3, 1) := by decide +kernel
theorem dJ1_indexOfChar_4cfef_10 : decode cJ1_indexOfChar_4cfef 10 = .ok (.if_icmp .ge 21, 3) := by decide +kernel
theorem dJ1_indexOfChar_4cfef_13 : decode cJ1_indexOfChar_4cfef 13 = .ok (.aload_n 0, 1) := by decide +kernel
theorem dJ1_indexOfChar_4cfef_14 : decode cJ1_indexOfChar_4cfef 14 = .ok (.iload 5, 2) := by decide +kernel
theorem dJ1_indexOfChar_4cfef_16 : decode cJ1_indexOfChar_4cfef 16 = .ok (.baload, 1) := by decide +kernel
theorem dJ1_indexOfChar_4cfef_17 : decode cJ1_indexOfChar_4cfef 17 = .ok (.iload 4, 2) := by decide +kernel
theorem dJ1_indexOfChar_4cfef_19 : decode cJ1_indexOfChar_4cfef 19 = .ok (.if_icmp .ne 6, 3) := by decide +kernel
theorem dJ1_indexOfChar_4cfef_22 : decode cJ1_indexOfChar_4cfef 22 = .ok (.iload 5, 2) := by decide +kernel
theorem dJ1_indexOfChar_4cfef_24 : decode cJ1_indexOfChar_4cfef 24 = .ok (.ireturn, 1) := by decide +kernel
theorem dJ1_indexOfChar_4cfef_25 : decode cJ1_indexOfChar_4cfef 25 = .ok (.iinc 5 1, 3) := by decide +kernel
theorem dJ1_indexOfChar_4cfef_28 : decode cJ1_indexOfChar_4cfef 28 = .ok (.goto (-21), 3) := by decide +kernel
theorem dJ1_indexOfChar_4cfef_31 : decode cJ1_indexOfChar_4cfef 31 = .ok (.iconst (-1), 1) := by decide +kernel
theorem dJ1_indexOfChar_4cfef_32 : decode cJ1_indexOfChar_4cfef 32 = .ok (.ireturn, 1) := by decide +kernel
theorem dJ7_fill_d0a16_0 : decode cJ7_fill_d0a16 0 = .ok (.iconst 0, 1) := by decide +kernel
theorem dJ7_fill_d0a16_1 : decode cJ7_fill_d0a16 1 = .ok (.istore_n 3, 1) := by decide +kernel
theorem dJ7_fill_d0a16_2 : decode cJ7_fill_d0a16 2 = .ok (.aload_n 0, 1) := by decide +kernel
theorem dJ7_fill_d0a16_3 : decode cJ7_fill_d0a16 3 = .ok (.arraylength, 1) := by decide +kernel
theorem dJ7_fill_d0a16_4 : decode cJ7_fill_d0a16 4 = .ok (.istore 4, 2) := by decide +kernel
theorem dJ7_fill_d0a16_6 : decode cJ7_fill_d0a16 6 = .ok (.iload_n 3, 1) := by decide +kernel
theorem dJ7_fill_d0a16_7 : decode cJ7_fill_d0a16 7 = .ok (.iload 4, 2) := by decide +kernel
theorem dJ7_fill_d0a16_9 : decode cJ7_fill_d0a16 9 = .ok (.if_icmp .ge 13, 3) := by decide +kernel
theorem dJ7_fill_d0a16_12 : decode cJ7_fill_d0a16 12 = .ok (.aload_n 0, 1) := by decide +kernel
theorem dJ7_fill_d0a16_13 : decode cJ7_fill_d0a16 13 = .ok (.iload_n 3, 1) := by decide +kernel
theorem dJ7_fill_d0a16_14 : decode cJ7_fill_d0a16 14 = .ok (.lload_n 1, 1) := by decide +kernel
theorem dJ7_fill_d0a16_15 : decode cJ7_fill_d0a16 15 = .ok (.lastore, 1) := by decide +kernel
theorem dJ7_fill_d0a16_16 : decode cJ7_fill_d0a16 16 = .ok (.iinc 3 1, 3) := by decide +kernel
theorem dJ7_fill_d0a16_19 : decode cJ7_fill_d0a16 19 = .ok (.goto (-13), 3) := by decide +kernel
theorem dJ7_fill_d0a16_22 : decode cJ7_fill_d0a16 22 = .ok (.return_, 1) := by decide +kernel
theorem dJ7_fill_53178_0 : decode cJ7_fill_53178 0 = .ok (.iconst 0, 1) := by decide +kernel
theorem dJ7_fill_53178_1 : decode cJ7_fill_53178 1 = .ok (.istore_n 2, 1) := by decide +kernel
theorem dJ7_fill_53178_2 : decode cJ7_fill_53178 2 = .ok (.aload_n 0, 1) := by decide +kernel
theorem dJ7_fill_53178_3 : decode cJ7_fill_53178 3 = .ok (.arraylength, 1) := by decide +kernel
theorem dJ7_fill_53178_4 : decode cJ7_fill_53178 4 = .ok (.istore_n 3, 1) := by decide +kernel
theorem dJ7_fill_53178_5 : decode cJ7_fill_53178 5 = .ok (.iload_n 2, 1) := by decide +kernel
theorem dJ7_fill_53178_6 : decode cJ7_fill_53178 6 = .ok (.iload_n 3, 1) := by decide +kernel
theorem dJ7_fill_53178_7 : decode cJ7_fill_53178 7 = .ok (.if_icmp .ge 13, 3) := by decide +kernel
theorem dJ7_fill_53178_10 : decode cJ7_fill_53178 10 = .ok (.aload_n 0, 1) := by decide +kernel
theorem dJ7_fill_53178_11 : decode cJ7_fill_53178 11 = .ok (.iload_n 2, 1) := by decide +kernel
theorem dJ7_fill_53178_12 : decode cJ7_fill_53178 12 = .ok (.iload_n 1, 1) := by decide +kernel
theorem dJ7_fill_53178_13 : decode cJ7_fill_53178 13 = .ok (.iastore, 1) := by decide +kernel
theorem dJ7_fill_53178_14 : decode cJ7_fill_53178 14 = .ok (.iinc 2 1, 3) := by decide +kernel
theorem dJ7_fill_53178_17 : decode cJ7_fill_53178 17 = .ok (.goto (-12), 3) := by decide +kernel
theorem dJ7_fill_53178_20 : decode cJ7_fill_53178 20 = .ok (.return_, 1) := by decide +kernel
theorem dJ7_copyOf_59c91_0 : decode cJ7_copyOf_59c91 0 = .ok (.iload_n 1, 1) := by decide +kernel
theorem dJ7_copyOf_59c91_1 : decode cJ7_copyOf_59c91 1 = .ok (.aload_n 0, 1) := by decide +kernel
theorem dJ7_copyOf_59c91_2 : decode cJ7_copyOf_59c91 2 = .ok (.arraylength, 1) := by decide +kernel
theorem dJ7_copyOf_59c91_3 : decode cJ7_copyOf_59c91 3 = .ok (.if_icmp .ne 11, 3) := by decide +kernel
theorem dJ7_copyOf_59c91_6 : decode cJ7_copyOf_59c91 6 = .ok (.aload_n 0, 1) := by decide +kernel
theorem dJ7_copyOf_59c91_7 : decode cJ7_copyOf_59c91 7 = .ok (.invokevirtual 316, 3) := by decide +kernel
theorem dJ7_copyOf_59c91_10 : decode cJ7_copyOf_59c91 10 = .ok (.checkcast 317, 3) := by decide +kernel
theorem dJ7_copyOf_59c91_13 : decode cJ7_copyOf_59c91 13 = .ok (.areturn, 1) := by decide +kernel
theorem dJ7_copyOf_59c91_14 : decode cJ7_copyOf_59c91 14 = .ok (.iload_n 1, 1) := by decide +kernel
theorem dJ7_copyOf_59c91_15 : decode cJ7_copyOf_59c91 15 = .ok (.newarray .int, 2) := by decide +kernel
theorem dJ7_copyOf_59c91_17 : decode cJ7_copyOf_59c91 17 = .ok (.astore_n 2, 1) := by decide +kernel
theorem dJ7_copyOf_59c91_18 : decode cJ7_copyOf_59c91 18 = .ok (.aload_n 0, 1) := by decide +kernel
theorem dJ7_copyOf_59c91_19 : decode cJ7_copyOf_59c91 19 = .ok (.iconst 0, 1) := by decide +kernel
theorem dJ7_copyOf_59c91_20 : decode cJ7_copyOf_59c91 20 = .ok (.aload_n 2, 1) := by decide +kernel
theorem dJ7_copyOf_59c91_21 : decode cJ7_copyOf_59c91 21 = .ok (.iconst 0, 1) := by decide +kernel
theorem dJ7_copyOf_59c91_22 : decode cJ7_copyOf_59c91 22 = .ok (.aload_n 0, 1) := by decide +kernel
theorem dJ7_copyOf_59c91_23 : decode cJ7_copyOf_59c91 23 = .ok (.arraylength, 1) := by decide +kernel
theorem dJ7_copyOf_59c91_24 : decode cJ7_copyOf_59c91 24 = .ok (.iload_n 1, 1) := by decide +kernel
theorem dJ7_copyOf_59c91_25 : decode cJ7_copyOf_59c91 25 = .ok (.invokestatic 304, 3) := by decide +kernel
theorem dJ7_copyOf_59c91_28 : decode cJ7_copyOf_59c91 28 = .ok (.invokestatic 150, 3) := by decide +kernel
theorem dJ7_copyOf_59c91_31 : decode cJ7_copyOf_59c91 31 = .ok (.aload_n 2, 1) := by decide +kernel
theorem dJ7_copyOf_59c91_32 : decode cJ7_copyOf_59c91 32 = .ok (.areturn, 1) := by decide +kernel
theorem dJ3_checkIndex_8e157_0 : decode cJ3_checkIndex_8e157 0 = .ok (.iload_n 0, 1) := by decide +kernel
theorem dJ3_checkIndex_8e157_1 : decode cJ3_checkIndex_8e157 1 = .ok (.ifCond .lt 8, 3) := by decide +kernel
theorem dJ3_checkIndex_8e157_4 : decode cJ3_checkIndex_8e157 4 = .ok (.iload_n 0, 1) := by decide +kernel
theorem dJ3_checkIndex_8e157_5 : decode cJ3_checkIndex_8e157 5 = .ok (.iload_n 1, 1) := by decide +kernel
theorem dJ3_checkIndex_8e157_6 : decode cJ3_checkIndex_8e157 6 = .ok (.if_icmp .lt 10, 3) := by decide +kernel
theorem dJ3_checkIndex_8e157_9 : decode cJ3_checkIndex_8e157 9 = .ok (.aload_n 2, 1) := by decide +kernel
theorem dJ3_checkIndex_8e157_10 : decode cJ3_checkIndex_8e157 10 = .ok (.iload_n 0, 1) := by decide +kernel
theorem dJ3_checkIndex_8e157_11 : decode cJ3_checkIndex_8e157 11 = .ok (.iload_n 1, 1) := by decide +kernel
theorem dJ3_checkIndex_8e157_12 : decode cJ3_checkIndex_8e157 12 = .ok (.invokestatic 95, 3) := by decide +kernel
theorem dJ3_checkIndex_8e157_15 : decode cJ3_checkIndex_8e157 15 = .ok (.athrow, 1) := by decide +kernel
theorem dJ3_checkIndex_8e157_16 : decode cJ3_checkIndex_8e157 16 = .ok (.iload_n 0, 1) := by decide +kernel
theorem dJ3_checkIndex_8e157_17 : decode cJ3_checkIndex_8e157 17 = .ok (.ireturn, 1) := by decide +kernel
theorem dJ3_checkFromToIndex_8c36e_0 : decode cJ3_checkFromToIndex_8c36e 0 = .ok (.iload_n 0, 1) := by decide +kernel
theorem dJ3_checkFromToIndex_8c36e_1 : decode cJ3_checkFromToIndex_8c36e 1 = .ok (.ifCond .lt 13, 3) := by decide +kernel
theorem dJ3_checkFromToIndex_8c36e_4 : decode cJ3_checkFromToIndex_8c36e 4 = .ok (.iload_n 0, 1) := by decide +kernel
theorem dJ3_checkFromToIndex_8c36e_5 : decode cJ3_checkFromToIndex_8c36e 5 = .ok (.iload_n 1, 1) := by decide +kernel
theorem dJ3_checkFromToIndex_8c36e_6 : decode cJ3_checkFromToIndex_8c36e 6 = .ok (.if_icmp .gt 8, 3) := by decide +kernel
theorem dJ3_checkFromToIndex_8c36e_9 : decode cJ3_checkFromToIndex_8c36e 9 = .ok (.iload_n 1, 1) := by decide +kernel
theorem dJ3_checkFromToIndex_8c36e_10 : decode cJ3_checkFromToIndex_8c36e 10 = .ok (.iload_n 2, 1) := by decide +kernel
theorem dJ3_checkFromToIndex_8c36e_11 : decode cJ3_checkFromToIndex_8c36e 11 = .ok (.if_icmp .le 11, 3) := by decide +kernel
theorem dJ3_checkFromToIndex_8c36e_14 : decode cJ3_checkFromToIndex_8c36e 14 = .ok (.aload_n 3, 1) := by decide +kernel
theorem dJ3_checkFromToIndex_8c36e_15 : decode cJ3_checkFromToIndex_8c36e 15 = .ok (.iload_n 0, 1) := by decide +kernel
theorem dJ3_checkFromToIndex_8c36e_16 : decode cJ3_checkFromToIndex_8c36e 16 = .ok (.iload_n 1, 1) := by decide +kernel
theorem dJ3_checkFromToIndex_8c36e_17 : decode cJ3_checkFromToIndex_8c36e 17 = .ok (.iload_n 2, 1) := by decide +kernel
theorem dJ3_checkFromToIndex_8c36e_18 : decode cJ3_checkFromToIndex_8c36e 18 = .ok (.invokestatic 99, 3) := by decide +kernel
theorem dJ3_checkFromToIndex_8c36e_21 : decode cJ3_checkFromToIndex_8c36e 21 = .ok (.athrow, 1) := by decide +kernel
theorem dJ3_checkFromToIndex_8c36e_22 : decode cJ3_checkFromToIndex_8c36e 22 = .ok (.iload_n 0, 1) := by decide +kernel
theorem dJ3_checkFromToIndex_8c36e_23 : decode cJ3_checkFromToIndex_8c36e 23 = .ok (.ireturn, 1) := by decide +kernel
