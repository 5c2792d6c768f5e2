theorem dX6_freeSlots_16 : decode cX6_freeSlots 16 = .ok (.goto 11, 3) := by decide +kernel
theorem dX6_freeSlots_19 : decode cX6_freeSlots 19 = .ok (.aload_n 0, 1) := by decide +kernel
theorem dX6_freeSlots_20 : decode cX6_freeSlots 20 = .ok (.getfield 94, 3) := by decide +kernel
theorem dX6_freeSlots_23 : decode cX6_freeSlots 23 = .ok (.iconst 0, 1) := by decide +kernel
theorem dX6_freeSlots_24 : decode cX6_freeSlots 24 = .ok (.invokestatic 97, 3) := by decide +kernel
theorem dX6_freeSlots_27 : decode cX6_freeSlots 27 = .ok (.return_, 1) := by decide +kernel
theorem dX6_isNewHeap_0 : decode cX6_isNewHeap 0 = .ok (.aload_n 0, 1) := by decide +kernel
theorem dX6_isNewHeap_1 : decode cX6_isNewHeap 1 = .ok (.getfield 94, 3) := by decide +kernel
theorem dX6_isNewHeap_4 : decode cX6_isNewHeap 4 = .ok (.ifnonnull 5, 3) := by decide +kernel
theorem dX6_isNewHeap_7 : decode cX6_isNewHeap 7 = .ok (.iconst 0, 1) := by decide +kernel
theorem dX6_isNewHeap_8 : decode cX6_isNewHeap 8 = .ok (.ireturn, 1) := by decide +kernel
theorem dX6_isNewHeap_9 : decode cX6_isNewHeap 9 = .ok (.iload_n 1, 1) := by decide +kernel
theorem dX6_isNewHeap_10 : decode cX6_isNewHeap 10 = .ok (.ldc 103, 2) := by decide +kernel
theorem dX6_isNewHeap_12 : decode cX6_isNewHeap 12 = .ok (.imul, 1) := by decide +kernel
theorem dX6_isNewHeap_13 : decode cX6_isNewHeap 13 = .ok (.bipush 19, 2) := by decide +kernel
theorem dX6_isNewHeap_15 : decode cX6_isNewHeap 15 = .ok (.iushr, 1) := by decide +kernel
theorem dX6_isNewHeap_16 : decode cX6_isNewHeap 16 = .ok (.istore_n 2, 1) := by decide +kernel
theorem dX6_isNewHeap_17 : decode cX6_isNewHeap 17 = .ok (.iconst 0, 1) := by decide +kernel
theorem dX6_isNewHeap_18 : decode cX6_isNewHeap 18 = .ok (.istore_n 3, 1) := by decide +kernel
theorem dX6_isNewHeap_19 : decode cX6_isNewHeap 19 = .ok (.iload_n 3, 1) := by decide +kernel
theorem dX6_isNewHeap_20 : decode cX6_isNewHeap 20 = .ok (.sipush 8192, 3) := by decide +kernel
theorem dX6_isNewHeap_23 : decode cX6_isNewHeap 23 = .ok (.if_icmp .ge 65, 3) := by decide +kernel
theorem dX6_isNewHeap_26 : decode cX6_isNewHeap 26 = .ok (.iload_n 2, 1) := by decide +kernel
theorem dX6_isNewHeap_27 : decode cX6_isNewHeap 27 = .ok (.iload_n 3, 1) := by decide +kernel
theorem dX6_isNewHeap_28 : decode cX6_isNewHeap 28 = .ok (.iadd, 1) := by decide +kernel
theorem dX6_isNewHeap_29 : decode cX6_isNewHeap 29 = .ok (.sipush 8191, 3) := by decide +kernel
theorem dX6_isNewHeap_32 : decode cX6_isNewHeap 32 = .ok (.iand, 1) := by decide +kernel
theorem dX6_isNewHeap_33 : decode cX6_isNewHeap 33 = .ok (.istore 4, 2) := by decide +kernel
theorem dX6_isNewHeap_35 : decode cX6_isNewHeap 35 = .ok (.iload 4, 2) := by decide +kernel
theorem dX6_isNewHeap_37 : decode cX6_isNewHeap 37 = .ok (.aload_n 0, 1) := by decide +kernel
theorem dX6_isNewHeap_38 : decode cX6_isNewHeap 38 = .ok (.getfield 94, 3) := by decide +kernel
theorem dX6_isNewHeap_41 : decode cX6_isNewHeap 41 = .ok (.arraylength, 1) := by decide +kernel
theorem dX6_isNewHeap_42 : decode cX6_isNewHeap 42 = .ok (.if_icmp .ge 16, 3) := by decide +kernel
theorem dX6_isNewHeap_45 : decode cX6_isNewHeap 45 = .ok (.aload_n 0, 1) := by decide +kernel
theorem dX6_isNewHeap_46 : decode cX6_isNewHeap 46 = .ok (.getfield 94, 3) := by decide +kernel
theorem dX6_isNewHeap_49 : decode cX6_isNewHeap 49 = .ok (.iload 4, 2) := by decide +kernel
theorem dX6_isNewHeap_51 : decode cX6_isNewHeap 51 = .ok (.iaload, 1) := by decide +kernel
theorem dX6_isNewHeap_52 : decode cX6_isNewHeap 52 = .ok (.iload_n 1, 1) := by decide +kernel
theorem dX6_isNewHeap_53 : decode cX6_isNewHeap 53 = .ok (.iconst 1, 1) := by decide +kernel
theorem dX6_isNewHeap_54 : decode cX6_isNewHeap 54 = .ok (.iadd, 1) := by decide +kernel
theorem dX6_isNewHeap_55 : decode cX6_isNewHeap 55 = .ok (.if_icmp .ne 5, 3) := by decide +kernel
theorem dX6_isNewHeap_58 : decode cX6_isNewHeap 58 = .ok (.iconst 0, 1) := by decide +kernel
theorem dX6_isNewHeap_59 : decode cX6_isNewHeap 59 = .ok (.ireturn, 1) := by decide +kernel
theorem dX6_isNewHeap_60 : decode cX6_isNewHeap 60 = .ok (.aload_n 0, 1) := by decide +kernel
theorem dX6_isNewHeap_61 : decode cX6_isNewHeap 61 = .ok (.getfield 94, 3) := by decide +kernel
theorem dX6_isNewHeap_64 : decode cX6_isNewHeap 64 = .ok (.iload 4, 2) := by decide +kernel
theorem dX6_isNewHeap_66 : decode cX6_isNewHeap 66 = .ok (.iaload, 1) := by decide +kernel
theorem dX6_isNewHeap_67 : decode cX6_isNewHeap 67 = .ok (.ifCond .ne 15, 3) := by decide +kernel
theorem dX6_isNewHeap_70 : decode cX6_isNewHeap 70 = .ok (.aload_n 0, 1) := by decide +kernel
theorem dX6_isNewHeap_71 : decode cX6_isNewHeap 71 = .ok (.getfield 94, 3) := by decide +kernel
theorem dX6_isNewHeap_74 : decode cX6_isNewHeap 74 = .ok (.iload 4, 2) := by decide +kernel
theorem dX6_isNewHeap_76 : decode cX6_isNewHeap 76 = .ok (.iload_n 1, 1) := by decide +kernel
theorem dX6_isNewHeap_77 : decode cX6_isNewHeap 77 = .ok (.iconst 1, 1) := by decide +kernel
theorem dX6_isNewHeap_78 : decode cX6_isNewHeap 78 = .ok (.iadd, 1) := by decide +kernel
theorem dX6_isNewHeap_79 : decode cX6_isNewHeap 79 = .ok (.iastore, 1) := by decide +kernel
theorem dX6_isNewHeap_80 : decode cX6_isNewHeap 80 = .ok (.iconst 1, 1) := by decide +kernel
theorem dX6_isNewHeap_81 : decode cX6_isNewHeap 81 = .ok (.ireturn, 1) := by decide +kernel
theorem dX6_isNewHeap_82 : decode cX6_isNewHeap 82 = .ok (.iinc 3 1, 3) := by decide +kernel
theorem dX6_isNewHeap_85 : decode cX6_isNewHeap 85 = .ok (.goto (-66), 3) := by decide +kernel
theorem dX6_isNewHeap_88 : decode cX6_isNewHeap 88 = .ok (.iconst 0, 1) := by decide +kernel
theorem dX6_isNewHeap_89 : decode cX6_isNewHeap 89 = .ok (.ireturn, 1) := by decide +kernel
theorem dX6_firstChoice_0 : decode cX6_firstChoice 0 = .ok (.aload_n 0, 1) := by decide +kernel
theorem dX6_firstChoice_1 : decode cX6_firstChoice 1 = .ok (.iload_n 1, 1) := by decide +kernel
theorem dX6_firstChoice_2 : decode cX6_firstChoice 2 = .ok (.aload_n 0, 1) := by decide +kernel
theorem dX6_firstChoice_3 : decode cX6_firstChoice 3 = .ok (.getfield 18, 3) := by decide +kernel
theorem dX6_firstChoice_6 : decode cX6_firstChoice 6 = .ok (.arraylength, 1) := by decide +kernel
theorem dX6_firstChoice_7 : decode cX6_firstChoice 7 = .ok (.invokestatic 38, 3) := by decide +kernel
theorem dX6_firstChoice_10 : decode cX6_firstChoice 10 = .ok (.putfield 104, 3) := by decide +kernel
theorem dX6_firstChoice_13 : decode cX6_firstChoice 13 = .ok (.iconst 0, 1) := by decide +kernel
theorem dX6_firstChoice_14 : decode cX6_firstChoice 14 = .ok (.istore_n 2, 1) := by decide +kernel
theorem dX6_firstChoice_15 : decode cX6_firstChoice 15 = .ok (.iload_n 2, 1) := by decide +kernel
theorem dX6_firstChoice_16 : decode cX6_firstChoice 16 = .ok (.aload_n 0, 1) := by decide +kernel
theorem dX6_firstChoice_17 : decode cX6_firstChoice 17 = .ok (.getfield 104, 3) := by decide +kernel
theorem dX6_firstChoice_20 : decode cX6_firstChoice 20 = .ok (.if_icmp .ge 16, 3) := by decide +kernel
theorem dX6_firstChoice_23 : decode cX6_firstChoice 23 = .ok (.aload_n 0, 1) := by decide +kernel
theorem dX6_firstChoice_24 : decode cX6_firstChoice 24 = .ok (.getfield 18, 3) := by decide +kernel
theorem dX6_firstChoice_27 : decode cX6_firstChoice 27 = .ok (.iload_n 2, 1) := by decide +kernel
theorem dX6_firstChoice_28 : decode cX6_firstChoice 28 = .ok (.iload_n 2, 1) := by decide +kernel
theorem dX6_firstChoice_29 : decode cX6_firstChoice 29 = .ok (.iastore, 1) := by decide +kernel
theorem dX6_firstChoice_30 : decode cX6_firstChoice 30 = .ok (.iinc 2 1, 3) := by decide +kernel
theorem dX6_firstChoice_33 : decode cX6_firstChoice 33 = .ok (.goto (-18), 3) := by decide +kernel
theorem dX6_firstChoice_36 : decode cX6_firstChoice 36 = .ok (.return_, 1) := by decide +kernel
theorem dX6_nextChoice_0 : decode cX6_nextChoice 0 = .ok (.aload_n 0, 1) := by decide +kernel
theorem dX6_nextChoice_1 : decode cX6_nextChoice 1 = .ok (.getfield 104, 3) := by decide +kernel
theorem dX6_nextChoice_4 : decode cX6_nextChoice 4 = .ok (.iconst 1, 1) := by decide +kernel
theorem dX6_nextChoice_5 : decode cX6_nextChoice 5 = .ok (.isub, 1) := by decide +kernel
theorem dX6_nextChoice_6 : decode cX6_nextChoice 6 = .ok (.istore_n 1, 1) := by decide +kernel
theorem dX6_nextChoice_7 : decode cX6_nextChoice 7 = .ok (.iload_n 1, 1) := by decide +kernel
theorem dX6_nextChoice_8 : decode cX6_nextChoice 8 = .ok (.ifCond .lt 75, 3) := by decide +kernel
theorem dX6_nextChoice_11 : decode cX6_nextChoice 11 = .ok (.aload_n 0, 1) := by decide +kernel
theorem dX6_nextChoice_12 : decode cX6_nextChoice 12 = .ok (.getfield 18, 3) := by decide +kernel
theorem dX6_nextChoice_15 : decode cX6_nextChoice 15 = .ok (.iload_n 1, 1) := by decide +kernel
theorem dX6_nextChoice_16 : decode cX6_nextChoice 16 = .ok (.iaload, 1) := by decide +kernel
theorem dX6_nextChoice_17 : decode cX6_nextChoice 17 = .ok (.aload_n 0, 1) := by decide +kernel
theorem dX6_nextChoice_18 : decode cX6_nextChoice 18 = .ok (.getfield 60, 3) := by decide +kernel
theorem dX6_nextChoice_21 : decode cX6_nextChoice 21 = .ok (.aload_n 0, 1) := by decide +kernel
theorem dX6_nextChoice_22 : decode cX6_nextChoice 22 = .ok (.getfield 104, 3) := by decide +kernel
theorem dX6_nextChoice_25 : decode cX6_nextChoice 25 = .ok (.isub, 1) := by decide +kernel
theorem dX6_nextChoice_26 : decode cX6_nextChoice 26 = .ok (.iload_n 1, 1) := by decide +kernel
theorem dX6_nextChoice_27 : decode cX6_nextChoice 27 = .ok (.iadd, 1) := by decide +kernel
theorem dX6_nextChoice_28 : decode cX6_nextChoice 28 = .ok (.if_icmp .ge 49, 3) := by decide +kernel
theorem dX6_nextChoice_31 : decode cX6_nextChoice 31 = .ok (.aload_n 0, 1) := by decide +kernel
theorem dX6_nextChoice_32 : decode cX6_nextChoice 32 = .ok (.getfield 18, 3) := by decide +kernel
theorem dX6_nextChoice_35 : decode cX6_nextChoice 35 = .ok (.iload_n 1, 1) := by decide +kernel
theorem dX6_nextChoice_36 : decode cX6_nextChoice 36 = .ok (.dup2, 1) := by decide +kernel
theorem dX6_nextChoice_37 : decode cX6_nextChoice 37 = .ok (.iaload, 1) := by decide +kernel
theorem dX6_nextChoice_38 : decode cX6_nextChoice 38 = .ok (.iconst 1, 1) := by decide +kernel
theorem dX6_nextChoice_39 : decode cX6_nextChoice 39 = .ok (.iadd, 1) := by decide +kernel
theorem dX6_nextChoice_40 : decode cX6_nextChoice 40 = .ok (.iastore, 1) := by decide +kernel
theorem dX6_nextChoice_41 : decode cX6_nextChoice 41 = .ok (.iload_n 1, 1) := by decide +kernel
theorem dX6_nextChoice_42 : decode cX6_nextChoice 42 = .ok (.iconst 1, 1) := by decide +kernel
theorem dX6_nextChoice_43 : decode cX6_nextChoice 43 = .ok (.iadd, 1) := by decide +kernel
theorem dX6_nextChoice_44 : decode cX6_nextChoice 44 = .ok (.istore_n 2, 1) := by decide +kernel
theorem dX6_nextChoice_45 : decode cX6_nextChoice 45 = .ok (.iload_n 2, 1) := by decide +kernel
theorem dX6_nextChoice_46 : decode cX6_nextChoice 46 = .ok (.aload_n 0, 1) := by decide +kernel
theorem dX6_nextChoice_47 : decode cX6_nextChoice 47 = .ok (.getfield 104, 3) := by decide +kernel
theorem dX6_nextChoice_50 : decode cX6_nextChoice 50 = .ok (.if_icmp .ge 25, 3) := by decide +kernel
theorem dX6_nextChoice_53 : decode cX6_nextChoice 53 = .ok (.aload_n 0, 1) := by decide +kernel
theorem dX6_nextChoice_54 : decode cX6_nextChoice 54 = .ok (.getfield 18, 3) := by decide +kernel
theorem dX6_nextChoice_57 : decode cX6_nextChoice 57 = .ok (.iload_n 2, 1) := by decide +kernel
theorem dX6_nextChoice_58 : decode cX6_nextChoice 58 = .ok (.aload_n 0, 1) := by decide +kernel
theorem dX6_nextChoice_59 : decode cX6_nextChoice 59 = .ok (.getfield 18, 3) := by decide +kernel
theorem dX6_nextChoice_62 : decode cX6_nextChoice 62 = .ok (.iload_n 2, 1) := by decide +kernel
theorem dX6_nextChoice_63 : decode cX6_nextChoice 63 = .ok (.iconst 1, 1) := by decide +kernel
theorem dX6_nextChoice_64 : decode cX6_nextChoice 64 = .ok (.isub, 1) := by decide +kernel
theorem dX6_nextChoice_65 : decode cX6_nextChoice 65 = .ok (.iaload, 1) := by decide +kernel
theorem dX6_nextChoice_66 : decode cX6_nextChoice 66 = .ok (.iconst 1, 1) := by decide +kernel
theorem dX6_nextChoice_67 : decode cX6_nextChoice 67 = .ok (.iadd, 1) := by decide +kernel
theorem dX6_nextChoice_68 : decode cX6_nextChoice 68 = .ok (.iastore, 1) := by decide +kernel
theorem dX6_nextChoice_69 : decode cX6_nextChoice 69 = .ok (.iinc 2 1, 3) := by decide +kernel
theorem dX6_nextChoice_72 : decode cX6_nextChoice 72 = .ok (.goto (-27), 3) := by decide +kernel
theorem dX6_nextChoice_75 : decode cX6_nextChoice 75 = .ok (.iconst 1, 1) := by decide +kernel
theorem dX6_nextChoice_76 : decode cX6_nextChoice 76 = .ok (.ireturn, 1) := by decide +kernel
theorem dX6_nextChoice_77 : decode cX6_nextChoice 77 = .ok (.iinc 1 (-1), 3) := by decide +kernel
theorem dX6_nextChoice_80 : decode cX6_nextChoice 80 = .ok (.goto (-73), 3) := by decide +kernel
theorem dX6_nextChoice_83 : decode cX6_nextChoice 83 = .ok (.iconst 0, 1) := by decide +kernel
theorem dX6_nextChoice_84 : decode cX6_nextChoice 84 = .ok (.ireturn, 1) := by decide +kernel
theorem dX6_numberAt_0 : decode cX6_numberAt 0 = .ok (.iload_n 1, 1) := by decide +kernel
theorem dX6_numberAt_1 : decode cX6_numberAt 1 = .ok (.ifCond .lt 12, 3) := by decide +kernel
theorem dX6_numberAt_4 : decode cX6_numberAt 4 = .ok (.iload_n 1, 1) := by decide +kernel
theorem dX6_numberAt_5 : decode cX6_numberAt 5 = .ok (.aload_n 0, 1) := by decide +kernel
theorem dX6_numberAt_6 : decode cX6_numberAt 6 = .ok (.getfield 11, 3) := by decide +kernel
theorem dX6_numberAt_9 : decode cX6_numberAt 9 = .ok (.arraylength, 1) := by decide +kernel
theorem dX6_numberAt_10 : decode cX6_numberAt 10 = .ok (.if_icmp .lt 7, 3) := by decide +kernel
theorem dX6_numberAt_13 : decode cX6_numberAt 13 = .ok (.iconst 0, 1) := by decide +kernel
theorem dX6_numberAt_14 : decode cX6_numberAt 14 = .ok (.goto 9, 3) := by decide +kernel
theorem dX6_numberAt_17 : decode cX6_numberAt 17 = .ok (.aload_n 0, 1) := by decide +kernel
theorem dX6_numberAt_18 : decode cX6_numberAt 18 = .ok (.getfield 11, 3) := by decide +kernel
theorem dX6_numberAt_21 : decode cX6_numberAt 21 = .ok (.iload_n 1, 1) := by decide +kernel
theorem dX6_numberAt_22 : decode cX6_numberAt 22 = .ok (.iaload, 1) := by decide +kernel
theorem dX6_numberAt_23 : decode cX6_numberAt 23 = .ok (.ireturn, 1) := by decide +kernel
theorem dX6_drawCurve_0 : decode cX6_drawCurve 0 = .ok (.iconst 0, 1) := by decide +kernel
theorem dX6_drawCurve_1 : decode cX6_drawCurve 1 = .ok (.istore_n 1, 1) := by decide +kernel
theorem dX6_drawCurve_2 : decode cX6_drawCurve 2 = .ok (.iload_n 1, 1) := by decide +kernel
theorem dX6_drawCurve_3 : decode cX6_drawCurve 3 = .ok (.aload_n 0, 1) := by decide +kernel
theorem dX6_drawCurve_4 : decode cX6_drawCurve 4 = .ok (.getfield 104, 3) := by decide +kernel
theorem dX6_drawCurve_7 : decode cX6_drawCurve 7 = .ok (.if_icmp .ge 52, 3) := by decide +kernel
theorem dX6_drawCurve_10 : decode cX6_drawCurve 10 = .ok (.aload_n 0, 1) := by decide +kernel
theorem dX6_drawCurve_11 : decode cX6_drawCurve 11 = .ok (.getfield 21, 3) := by decide +kernel
theorem dX6_drawCurve_14 : decode cX6_drawCurve 14 = .ok (.iload_n 1, 1) := by decide +kernel
theorem dX6_drawCurve_15 : decode cX6_drawCurve 15 = .ok (.aload_n 0, 1) := by decide +kernel
theorem dX6_drawCurve_16 : decode cX6_drawCurve 16 = .ok (.getfield 18, 3) := by decide +kernel
theorem dX6_drawCurve_19 : decode cX6_drawCurve 19 = .ok (.iload_n 1, 1) := by decide +kernel
theorem dX6_drawCurve_20 : decode cX6_drawCurve 20 = .ok (.iaload, 1) := by decide +kernel
theorem dX6_drawCurve_21 : decode cX6_drawCurve 21 = .ok (.ifCond .lt 30, 3) := by decide +kernel
theorem dX6_drawCurve_24 : decode cX6_drawCurve 24 = .ok (.aload_n 0, 1) := by decide +kernel
theorem dX6_drawCurve_25 : decode cX6_drawCurve 25 = .ok (.getfield 18, 3) := by decide +kernel
theorem dX6_drawCurve_28 : decode cX6_drawCurve 28 = .ok (.iload_n 1, 1) := by decide +kernel
theorem dX6_drawCurve_29 : decode cX6_drawCurve 29 = .ok (.iaload, 1) := by decide +kernel
theorem dX6_drawCurve_30 : decode cX6_drawCurve 30 = .ok (.aload_n 0, 1) := by decide +kernel
theorem dX6_drawCurve_31 : decode cX6_drawCurve 31 = .ok (.getfield 60, 3) := by decide +kernel
theorem dX6_drawCurve_34 : decode cX6_drawCurve 34 = .ok (.if_icmp .ge 17, 3) := by decide +kernel
theorem dX6_drawCurve_37 : decode cX6_drawCurve 37 = .ok (.aload_n 0, 1) := by decide +kernel
theorem dX6_drawCurve_38 : decode cX6_drawCurve 38 = .ok (.getfield 15, 3) := by decide +kernel
theorem dX6_drawCurve_41 : decode cX6_drawCurve 41 = .ok (.aload_n 0, 1) := by decide +kernel
theorem dX6_drawCurve_42 : decode cX6_drawCurve 42 = .ok (.getfield 18, 3) := by decide +kernel
theorem dX6_drawCurve_45 : decode cX6_drawCurve 45 = .ok (.iload_n 1, 1) := by decide +kernel
theorem dX6_drawCurve_46 : decode cX6_drawCurve 46 = .ok (.iaload, 1) := by decide +kernel
theorem dX6_drawCurve_47 : decode cX6_drawCurve 47 = .ok (.iaload, 1) := by decide +kernel
theorem dX6_drawCurve_48 : decode cX6_drawCurve 48 = .ok (.goto 4, 3) := by decide +kernel
theorem dX6_drawCurve_51 : decode cX6_drawCurve 51 = .ok (.iconst 0, 1) := by decide +kernel
theorem dX6_drawCurve_52 : decode cX6_drawCurve 52 = .ok (.iastore, 1) := by decide +kernel
theorem dX6_drawCurve_53 : decode cX6_drawCurve 53 = .ok (.iinc 1 1, 3) := by decide +kernel
theorem dX6_drawCurve_56 : decode cX6_drawCurve 56 = .ok (.goto (-54), 3) := by decide +kernel
theorem dX6_drawCurve_59 : decode cX6_drawCurve 59 = .ok (.aload_n 0, 1) := by decide +kernel
theorem dX6_drawCurve_60 : decode cX6_drawCurve 60 = .ok (.lconst 1, 1) := by decide +kernel
theorem dX6_drawCurve_61 : decode cX6_drawCurve 61 = .ok (.putfield 107, 3) := by decide +kernel
theorem dX6_drawCurve_64 : decode cX6_drawCurve 64 = .ok (.iconst 0, 1) := by decide +kernel
theorem dX6_drawCurve_65 : decode cX6_drawCurve 65 = .ok (.istore_n 1, 1) := by decide +kernel
theorem dX6_drawCurve_66 : decode cX6_drawCurve 66 = .ok (.iload_n 1, 1) := by decide +kernel
theorem dX6_drawCurve_67 : decode cX6_drawCurve 67 = .ok (.aload_n 0, 1) := by decide +kernel
theorem dX6_drawCurve_68 : decode cX6_drawCurve 68 = .ok (.getfield 104, 3) := by decide +kernel
theorem dX6_drawCurve_71 : decode cX6_drawCurve 71 = .ok (.if_icmp .ge 50, 3) := by decide +kernel
theorem dX6_drawCurve_74 : decode cX6_drawCurve 74 = .ok (.iload_n 1, 1) := by decide +kernel
theorem dX6_drawCurve_75 : decode cX6_drawCurve 75 = .ok (.iconst 1, 1) := by decide +kernel
theorem dX6_drawCurve_76 : decode cX6_drawCurve 76 = .ok (.iadd, 1) := by decide +kernel
theorem dX6_drawCurve_77 : decode cX6_drawCurve 77 = .ok (.istore_n 2, 1) := by decide +kernel
theorem dX6_drawCurve_78 : decode cX6_drawCurve 78 = .ok (.iload_n 2, 1) := by decide +kernel
theorem dX6_drawCurve_79 : decode cX6_drawCurve 79 = .ok (.aload_n 0, 1) := by decide +kernel
theorem dX6_drawCurve_80 : decode cX6_drawCurve 80 = .ok (.getfield 104, 3) := by decide +kernel
theorem dX6_drawCurve_83 : decode cX6_drawCurve 83 = .ok (.if_icmp .ge 32, 3) := by decide +kernel
theorem dX6_drawCurve_86 : decode cX6_drawCurve 86 = .ok (.aload_n 0, 1) := by decide +kernel
theorem dX6_drawCurve_87 : decode cX6_drawCurve 87 = .ok (.dup, 1) := by decide +kernel
theorem dX6_drawCurve_88 : decode cX6_drawCurve 88 = .ok (.getfield 107, 3) := by decide +kernel
theorem dX6_drawCurve_91 : decode cX6_drawCurve 91 = .ok (.aload_n 0, 1) := by decide +kernel
theorem dX6_drawCurve_92 : decode cX6_drawCurve 92 = .ok (.getfield 21, 3) := by decide +kernel
theorem dX6_drawCurve_95 : decode cX6_drawCurve 95 = .ok (.iload_n 2, 1) := by decide +kernel
theorem dX6_drawCurve_96 : decode cX6_drawCurve 96 = .ok (.iaload, 1) := by decide +kernel
theorem dX6_drawCurve_97 : decode cX6_drawCurve 97 = .ok (.aload_n 0, 1) := by decide +kernel
theorem dX6_drawCurve_98 : decode cX6_drawCurve 98 = .ok (.getfield 21, 3) := by decide +kernel
theorem dX6_drawCurve_101 : decode cX6_drawCurve 101 = .ok (.iload_n 1, 1) := by decide +kernel
theorem dX6_drawCurve_102 : decode cX6_drawCurve 102 = .ok (.iaload, 1) := by decide +kernel
theorem dX6_drawCurve_103 : decode cX6_drawCurve 103 = .ok (.isub, 1) := by decide +kernel
theorem dX6_drawCurve_104 : decode cX6_drawCurve 104 = .ok (.i2l, 1) := by decide +kernel
theorem dX6_drawCurve_105 : decode cX6_drawCurve 105 = .ok (.lmul, 1) := by decide +kernel
theorem dX6_drawCurve_106 : decode cX6_drawCurve 106 = .ok (.putfield 107, 3) := by decide +kernel
theorem dX6_drawCurve_109 : decode cX6_drawCurve 109 = .ok (.iinc 2 1, 3) := by decide +kernel
theorem dX6_drawCurve_112 : decode cX6_drawCurve 112 = .ok (.goto (-34), 3) := by decide +kernel
theorem dX6_drawCurve_115 : decode cX6_drawCurve 115 = .ok (.iinc 1 1, 3) := by decide +kernel
theorem dX6_drawCurve_118 : decode cX6_drawCurve 118 = .ok (.goto (-52), 3) := by decide +kernel
theorem dX6_drawCurve_121 : decode cX6_drawCurve 121 = .ok (.iconst 0, 1) := by decide +kernel
theorem dX6_drawCurve_122 : decode cX6_drawCurve 122 = .ok (.istore_n 1, 1) := by decide +kernel
theorem dX6_drawCurve_123 : decode cX6_drawCurve 123 = .ok (.iload_n 1, 1) := by decide +kernel
theorem dX6_drawCurve_124 : decode cX6_drawCurve 124 = .ok (.aload_n 0, 1) := by decide +kernel
theorem dX6_drawCurve_125 : decode cX6_drawCurve 125 = .ok (.getfield 104, 3) := by decide +kernel
theorem dX6_drawCurve_128 : decode cX6_drawCurve 128 = .ok (.if_icmp .ge 31, 3) := by decide +kernel
theorem dX6_drawCurve_131 : decode cX6_drawCurve 131 = .ok (.aload_n 0, 1) := by decide +kernel
theorem dX6_drawCurve_132 : decode cX6_drawCurve 132 = .ok (.getfield 24, 3) := by decide +kernel
theorem dX6_drawCurve_135 : decode cX6_drawCurve 135 = .ok (.iload_n 1, 1) := by decide +kernel
theorem dX6_drawCurve_136 : decode cX6_drawCurve 136 = .ok (.aload_n 0, 1) := by decide +kernel
theorem dX6_drawCurve_137 : decode cX6_drawCurve 137 = .ok (.getfield 107, 3) := by decide +kernel
theorem dX6_drawCurve_140 : decode cX6_drawCurve 140 = .ok (.aload_n 0, 1) := by decide +kernel
theorem dX6_drawCurve_141 : decode cX6_drawCurve 141 = .ok (.aload_n 0, 1) := by decide +kernel
theorem dX6_drawCurve_142 : decode cX6_drawCurve 142 = .ok (.getfield 21, 3) := by decide +kernel
theorem dX6_drawCurve_145 : decode cX6_drawCurve 145 = .ok (.iload_n 1, 1) := by decide +kernel
theorem dX6_drawCurve_146 : decode cX6_drawCurve 146 = .ok (.iaload, 1) := by decide +kernel
theorem dX6_drawCurve_147 : decode cX6_drawCurve 147 = .ok (.invokevirtual 111, 3) := by decide +kernel
theorem dX6_drawCurve_150 : decode cX6_drawCurve 150 = .ok (.i2l, 1) := by decide +kernel
theorem dX6_drawCurve_151 : decode cX6_drawCurve 151 = .ok (.lmul, 1) := by decide +kernel
theorem dX6_drawCurve_152 : decode cX6_drawCurve 152 = .ok (.lastore, 1) := by decide +kernel
theorem dX6_drawCurve_153 : decode cX6_drawCurve 153 = .ok (.iinc 1 1, 3) := by decide +kernel
theorem dX6_drawCurve_156 : decode cX6_drawCurve 156 = .ok (.goto (-33), 3) := by decide +kernel
theorem dX6_drawCurve_159 : decode cX6_drawCurve 159 = .ok (.iconst 1, 1) := by decide +kernel
theorem dX6_drawCurve_160 : decode cX6_drawCurve 160 = .ok (.istore_n 1, 1) := by decide +kernel
theorem dX6_drawCurve_161 : decode cX6_drawCurve 161 = .ok (.iload_n 1, 1) := by decide +kernel
theorem dX6_drawCurve_162 : decode cX6_drawCurve 162 = .ok (.aload_n 0, 1) := by decide +kernel
theorem dX6_drawCurve_163 : decode cX6_drawCurve 163 = .ok (.getfield 104, 3) := by decide +kernel
theorem dX6_drawCurve_166 : decode cX6_drawCurve 166 = .ok (.if_icmp .ge 75, 3) := by decide +kernel
theorem dX6_drawCurve_169 : decode cX6_drawCurve 169 = .ok (.aload_n 0, 1) := by decide +kernel
theorem dX6_drawCurve_170 : decode cX6_drawCurve 170 = .ok (.getfield 104, 3) := by decide +kernel
theorem dX6_drawCurve_173 : decode cX6_drawCurve 173 = .ok (.iconst 1, 1) := by decide +kernel
theorem dX6_drawCurve_174 : decode cX6_drawCurve 174 = .ok (.isub, 1) := by decide +kernel
theorem dX6_drawCurve_175 : decode cX6_drawCurve 175 = .ok (.istore_n 2, 1) := by decide +kernel
theorem dX6_drawCurve_176 : decode cX6_drawCurve 176 = .ok (.iload_n 2, 1) := by decide +kernel
theorem dX6_drawCurve_177 : decode cX6_drawCurve 177 = .ok (.iload_n 1, 1) := by decide +kernel
theorem dX6_drawCurve_178 : decode cX6_drawCurve 178 = .ok (.if_icmp .lt 57, 3) := by decide +kernel
theorem dX6_drawCurve_181 : decode cX6_drawCurve 181 = .ok (.aload_n 0, 1) := by decide +kernel
theorem dX6_drawCurve_182 : decode cX6_drawCurve 182 = .ok (.getfield 21, 3) := by decide +kernel
theorem dX6_drawCurve_185 : decode cX6_drawCurve 185 = .ok (.iload_n 2, 1) := by decide +kernel
theorem dX6_drawCurve_186 : decode cX6_drawCurve 186 = .ok (.iaload, 1) := by decide +kernel
theorem dX6_drawCurve_187 : decode cX6_drawCurve 187 = .ok (.aload_n 0, 1) := by decide +kernel
theorem dX6_drawCurve_188 : decode cX6_drawCurve 188 = .ok (.getfield 21, 3) := by decide +kernel
theorem dX6_drawCurve_191 : decode cX6_drawCurve 191 = .ok (.iload_n 2, 1) := by decide +kernel
theorem dX6_drawCurve_192 : decode cX6_drawCurve 192 = .ok (.iload_n 1, 1) := by decide +kernel
theorem dX6_drawCurve_193 : decode cX6_drawCurve 193 = .ok (.isub, 1) := by decide +kernel
theorem dX6_drawCurve_194 : decode cX6_drawCurve 194 = .ok (.iaload, 1) := by decide +kernel
theorem dX6_drawCurve_195 : decode cX6_drawCurve 195 = .ok (.isub, 1) := by decide +kernel
theorem dX6_drawCurve_196 : decode cX6_drawCurve 196 = .ok (.istore_n 3, 1) := by decide +kernel
theorem dX6_drawCurve_197 : decode cX6_drawCurve 197 = .ok (.aload_n 0, 1) := by decide +kernel
theorem dX6_drawCurve_198 : decode cX6_drawCurve 198 = .ok (.getfield 24, 3) := by decide +kernel
theorem dX6_drawCurve_201 : decode cX6_drawCurve 201 = .ok (.iload_n 2, 1) := by decide +kernel
theorem dX6_drawCurve_202 : decode cX6_drawCurve 202 = .ok (.iload_n 3, 1) := by decide +kernel
theorem dX6_drawCurve_203 : decode cX6_drawCurve 203 = .ok (.ifCond .ne 7, 3) := by decide +kernel
theorem dX6_drawCurve_206 : decode cX6_drawCurve 206 = .ok (.lconst 0, 1) := by decide +kernel
theorem dX6_drawCurve_207 : decode cX6_drawCurve 207 = .ok (.goto 21, 3) := by decide +kernel
theorem dX6_drawCurve_210 : decode cX6_drawCurve 210 = .ok (.aload_n 0, 1) := by decide +kernel
theorem dX6_drawCurve_211 : decode cX6_drawCurve 211 = .ok (.getfield 24, 3) := by decide +kernel
theorem dX6_drawCurve_214 : decode cX6_drawCurve 214 = .ok (.iload_n 2, 1) := by decide +kernel
theorem dX6_drawCurve_215 : decode cX6_drawCurve 215 = .ok (.laload, 1) := by decide +kernel
theorem dX6_drawCurve_216 : decode cX6_drawCurve 216 = .ok (.aload_n 0, 1) := by decide +kernel
theorem dX6_drawCurve_217 : decode cX6_drawCurve 217 = .ok (.getfield 24, 3) := by decide +kernel
theorem dX6_drawCurve_220 : decode cX6_drawCurve 220 = .ok (.iload_n 2, 1) := by decide +kernel
theorem dX6_drawCurve_221 : decode cX6_drawCurve 221 = .ok (.iconst 1, 1) := by decide +kernel
theorem dX6_drawCurve_222 : decode cX6_drawCurve 222 = .ok (.isub, 1) := by decide +kernel
theorem dX6_drawCurve_223 : decode cX6_drawCurve 223 = .ok (.laload, 1) := by decide +kernel
theorem dX6_drawCurve_224 : decode cX6_drawCurve 224 = .ok (.lsub, 1) := by decide +kernel
theorem dX6_drawCurve_225 : decode cX6_drawCurve 225 = .ok (.iload_n 3, 1) := by decide +kernel
theorem dX6_drawCurve_226 : decode cX6_drawCurve 226 = .ok (.i2l, 1) := by decide +kernel
theorem dX6_drawCurve_227 : decode cX6_drawCurve 227 = .ok (.ldiv, 1) := by decide +kernel
theorem dX6_drawCurve_228 : decode cX6_drawCurve 228 = .ok (.lastore, 1) := by decide +kernel
theorem dX6_drawCurve_229 : decode cX6_drawCurve 229 = .ok (.iinc 2 (-1), 3) := by decide +kernel
theorem dX6_drawCurve_232 : decode cX6_drawCurve 232 = .ok (.goto (-56), 3) := by decide +kernel
theorem dX6_drawCurve_235 : decode cX6_drawCurve 235 = .ok (.iinc 1 1, 3) := by decide +kernel
theorem dX6_drawCurve_238 : decode cX6_drawCurve 238 = .ok (.goto (-77), 3) := by decide +kernel
theorem dX6_drawCurve_241 : decode cX6_drawCurve 241 = .ok (.return_, 1) := by decide +kernel
theorem dX6_curveAt_0 : decode cX6_curveAt 0 = .ok (.lconst 0, 1) := by decide +kernel
theorem dX6_curveAt_1 : decode cX6_curveAt 1 = .ok (.lstore_n 2, 1) := by decide +kernel
theorem dX6_curveAt_2 : decode cX6_curveAt 2 = .ok (.aload_n 0, 1) := by decide +kernel
theorem dX6_curveAt_3 : decode cX6_curveAt 3 = .ok (.getfield 104, 3) := by decide +kernel
theorem dX6_curveAt_6 : decode cX6_curveAt 6 = .ok (.iconst 1, 1) := by decide +kernel
theorem dX6_curveAt_7 : decode cX6_curveAt 7 = .ok (.isub, 1) := by decide +kernel
theorem dX6_curveAt_8 : decode cX6_curveAt 8 = .ok (.istore 4, 2) := by decide +kernel
theorem dX6_curveAt_10 : decode cX6_curveAt 10 = .ok (.iload 4, 2) := by decide +kernel
theorem dX6_curveAt_12 : decode cX6_curveAt 12 = .ok (.ifCond .lt 30, 3) := by decide +kernel
theorem dX6_curveAt_15 : decode cX6_curveAt 15 = .ok (.lload_n 2, 1) := by decide +kernel
theorem dX6_curveAt_16 : decode cX6_curveAt 16 = .ok (.iload_n 1, 1) := by decide +kernel
theorem dX6_curveAt_17 : decode cX6_curveAt 17 = .ok (.aload_n 0, 1) := by decide +kernel
theorem dX6_curveAt_18 : decode cX6_curveAt 18 = .ok (.getfield 21, 3) := by decide +kernel
theorem dX6_curveAt_21 : decode cX6_curveAt 21 = .ok (.iload 4, 2) := by decide +kernel
theorem dX6_curveAt_23 : decode cX6_curveAt 23 = .ok (.iaload, 1) := by decide +kernel
theorem dX6_curveAt_24 : decode cX6_curveAt 24 = .ok (.isub, 1) := by decide +kernel
theorem dX6_curveAt_25 : decode cX6_curveAt 25 = .ok (.i2l, 1) := by decide +kernel
theorem dX6_curveAt_26 : decode cX6_curveAt 26 = .ok (.lmul, 1) := by decide +kernel
theorem dX6_curveAt_27 : decode cX6_curveAt 27 = .ok (.aload_n 0, 1) := by decide +kernel
theorem dX6_curveAt_28 : decode cX6_curveAt 28 = .ok (.getfield 24, 3) := by decide +kernel
theorem dX6_curveAt_31 : decode cX6_curveAt 31 = .ok (.iload 4, 2) := by decide +kernel
theorem dX6_curveAt_33 : decode cX6_curveAt 33 = .ok (.laload, 1) := by decide +kernel
theorem dX6_curveAt_34 : decode cX6_curveAt 34 = .ok (.ladd, 1) := by decide +kernel
theorem dX6_curveAt_35 : decode cX6_curveAt 35 = .ok (.lstore_n 2, 1) := by decide +kernel
theorem dX6_curveAt_36 : decode cX6_curveAt 36 = .ok (.iinc 4 (-1), 3) := by decide +kernel
theorem dX6_curveAt_39 : decode cX6_curveAt 39 = .ok (.goto (-29), 3) := by decide +kernel
theorem dX6_curveAt_42 : decode cX6_curveAt 42 = .ok (.lload_n 2, 1) := by decide +kernel
theorem dX6_curveAt_43 : decode cX6_curveAt 43 = .ok (.lreturn, 1) := by decide +kernel
theorem dX6_missedBy_0 : decode cX6_missedBy 0 = .ok (.iconst 0, 1) := by decide +kernel
theorem dX6_missedBy_1 : decode cX6_missedBy 1 = .ok (.istore_n 3, 1) := by decide +kernel
theorem dX6_missedBy_2 : decode cX6_missedBy 2 = .ok (.iconst 0, 1) := by decide +kernel
theorem dX6_missedBy_3 : decode cX6_missedBy 3 = .ok (.istore 4, 2) := by decide +kernel
theorem dX6_missedBy_5 : decode cX6_missedBy 5 = .ok (.iconst 0, 1) := by decide +kernel
theorem dX6_missedBy_6 : decode cX6_missedBy 6 = .ok (.istore 5, 2) := by decide +kernel
theorem dX6_missedBy_8 : decode cX6_missedBy 8 = .ok (.iload 5, 2) := by decide +kernel
theorem dX6_missedBy_10 : decode cX6_missedBy 10 = .ok (.aload_n 0, 1) := by decide +kernel
theorem dX6_missedBy_11 : decode cX6_missedBy 11 = .ok (.getfield 60, 3) := by decide +kernel
theorem dX6_missedBy_14 : decode cX6_missedBy 14 = .ok (.if_icmp .ge 79, 3) := by decide +kernel
theorem dX6_missedBy_17 : decode cX6_missedBy 17 = .ok (.iload 5, 2) := by decide +kernel
theorem dX6_missedBy_19 : decode cX6_missedBy 19 = .ok (.aload_n 0, 1) := by decide +kernel
theorem dX6_missedBy_20 : decode cX6_missedBy 20 = .ok (.getfield 15, 3) := by decide +kernel
theorem dX6_missedBy_23 : decode cX6_missedBy 23 = .ok (.arraylength, 1) := by decide +kernel
theorem dX6_missedBy_24 : decode cX6_missedBy 24 = .ok (.if_icmp .ge 69, 3) := by decide +kernel
theorem dX6_missedBy_27 : decode cX6_missedBy 27 = .ok (.aload_n 0, 1) := by decide +kernel
theorem dX6_missedBy_28 : decode cX6_missedBy 28 = .ok (.getfield 15, 3) := by decide +kernel
theorem dX6_missedBy_31 : decode cX6_missedBy 31 = .ok (.iload 5, 2) := by decide +kernel
theorem dX6_missedBy_33 : decode cX6_missedBy 33 = .ok (.iaload, 1) := by decide +kernel
theorem dX6_missedBy_34 : decode cX6_missedBy 34 = .ok (.istore 6, 2) := by decide +kernel
theorem dX6_missedBy_36 : decode cX6_missedBy 36 = .ok (.aload_n 0, 1) := by decide +kernel
theorem dX6_missedBy_37 : decode cX6_missedBy 37 = .ok (.iload 6, 2) := by decide +kernel
theorem dX6_missedBy_39 : decode cX6_missedBy 39 = .ok (.invokevirtual 114, 3) := by decide +kernel
theorem dX6_missedBy_42 : decode cX6_missedBy 42 = .ok (.aload_n 0, 1) := by decide +kernel
theorem dX6_missedBy_43 : decode cX6_missedBy 43 = .ok (.iload 6, 2) := by decide +kernel
theorem dX6_missedBy_45 : decode cX6_missedBy 45 = .ok (.invokevirtual 111, 3) := by decide +kernel
theorem dX6_missedBy_48 : decode cX6_missedBy 48 = .ok (.i2l, 1) := by decide +kernel
theorem dX6_missedBy_49 : decode cX6_missedBy 49 = .ok (.aload_n 0, 1) := by decide +kernel
theorem dX6_missedBy_50 : decode cX6_missedBy 50 = .ok (.getfield 107, 3) := by decide +kernel
theorem dX6_missedBy_53 : decode cX6_missedBy 53 = .ok (.lmul, 1) := by decide +kernel
theorem dX6_missedBy_54 : decode cX6_missedBy 54 = .ok (.lsub, 1) := by decide +kernel
theorem dX6_missedBy_55 : decode cX6_missedBy 55 = .ok (.invokestatic 118, 3) := by decide +kernel
theorem dX6_missedBy_58 : decode cX6_missedBy 58 = .ok (.iload_n 1, 1) := by decide +kernel
theorem dX6_missedBy_59 : decode cX6_missedBy 59 = .ok (.i2l, 1) := by decide +kernel
theorem dX6_missedBy_60 : decode cX6_missedBy 60 = .ok (.aload_n 0, 1) := by decide +kernel
theorem dX6_missedBy_61 : decode cX6_missedBy 61 = .ok (.getfield 107, 3) := by decide +kernel
theorem dX6_missedBy_64 : decode cX6_missedBy 64 = .ok (.lmul, 1) := by decide +kernel
theorem dX6_missedBy_65 : decode cX6_missedBy 65 = .ok (.lcmp, 1) := by decide +kernel
theorem dX6_missedBy_66 : decode cX6_missedBy 66 = .ok (.ifCond .le 21, 3) := by decide +kernel
theorem dX6_missedBy_69 : decode cX6_missedBy 69 = .ok (.iload_n 3, 1) := by decide +kernel
theorem dX6_missedBy_70 : decode cX6_missedBy 70 = .ok (.iconst 1, 1) := by decide +kernel
theorem dX6_missedBy_71 : decode cX6_missedBy 71 = .ok (.iload 6, 2) := by decide +kernel
theorem dX6_missedBy_73 : decode cX6_missedBy 73 = .ok (.ishl, 1) := by decide +kernel
theorem dX6_missedBy_74 : decode cX6_missedBy 74 = .ok (.ior, 1) := by decide +kernel
theorem dX6_missedBy_75 : decode cX6_missedBy 75 = .ok (.istore_n 3, 1) := by decide +kernel
theorem dX6_missedBy_76 : decode cX6_missedBy 76 = .ok (.iinc 4 1, 3) := by decide +kernel
theorem dX6_missedBy_79 : decode cX6_missedBy 79 = .ok (.iload 4, 2) := by decide +kernel
theorem dX6_missedBy_81 : decode cX6_missedBy 81 = .ok (.iload_n 2, 1) := by decide +kernel
theorem dX6_missedBy_82 : decode cX6_missedBy 82 = .ok (.if_icmp .le 5, 3) := by decide +kernel
theorem dX6_missedBy_85 : decode cX6_missedBy 85 = .ok (.iconst (-1), 1) := by decide +kernel
theorem dX6_missedBy_86 : decode cX6_missedBy 86 = .ok (.ireturn, 1) := by decide +kernel
theorem dX6_missedBy_87 : decode cX6_missedBy 87 = .ok (.iinc 5 1, 3) := by decide +kernel
theorem dX6_missedBy_90 : decode cX6_missedBy 90 = .ok (.goto (-82), 3) := by decide +kernel
theorem dX6_missedBy_93 : decode cX6_missedBy 93 = .ok (.iload_n 3, 1) := by decide +kernel
theorem dX6_missedBy_94 : decode cX6_missedBy 94 = .ok (.ireturn, 1) := by decide +kernel
theorem dX6_valueBetween_0 : decode cX6_valueBetween 0 = .ok (.iload_n 2, 1) := by decide +kernel
theorem dX6_valueBetween_1 : decode cX6_valueBetween 1 = .ok (.ifCond .le 14, 3) := by decide +kernel
theorem dX6_valueBetween_4 : decode cX6_valueBetween 4 = .ok (.iload_n 2, 1) := by decide +kernel
theorem dX6_valueBetween_5 : decode cX6_valueBetween 5 = .ok (.iload_n 3, 1) := by decide +kernel
theorem dX6_valueBetween_6 : decode cX6_valueBetween 6 = .ok (.if_icmp .ge 9, 3) := by decide +kernel
theorem dX6_valueBetween_9 : decode cX6_valueBetween 9 = .ok (.iload_n 3, 1) := by decide +kernel
theorem dX6_valueBetween_10 : decode cX6_valueBetween 10 = .ok (.bipush 100, 2) := by decide +kernel
theorem dX6_valueBetween_12 : decode cX6_valueBetween 12 = .ok (.if_icmp .le 6, 3) := by decide +kernel
theorem dX6_valueBetween_15 : decode cX6_valueBetween 15 = .ok (.ldc 53, 2) := by decide +kernel
theorem dX6_valueBetween_17 : decode cX6_valueBetween 17 = .ok (.ireturn, 1) := by decide +kernel
theorem dX6_valueBetween_18 : decode cX6_valueBetween 18 = .ok (.iload_n 1, 1) := by decide +kernel
theorem dX6_valueBetween_19 : decode cX6_valueBetween 19 = .ok (.iconst 1, 1) := by decide +kernel
theorem dX6_valueBetween_20 : decode cX6_valueBetween 20 = .ok (.if_icmp .lt 22, 3) := by decide +kernel
theorem dX6_valueBetween_23 : decode cX6_valueBetween 23 = .ok (.iload_n 1, 1) := by decide +kernel
theorem dX6_valueBetween_24 : decode cX6_valueBetween 24 = .ok (.bipush 20, 2) := by decide +kernel
theorem dX6_valueBetween_26 : decode cX6_valueBetween 26 = .ok (.if_icmp .ge 16, 3) := by decide +kernel
theorem dX6_valueBetween_29 : decode cX6_valueBetween 29 = .ok (.aload_n 0, 1) := by decide +kernel
theorem dX6_valueBetween_30 : decode cX6_valueBetween 30 = .ok (.iload_n 1, 1) := by decide +kernel
theorem dX6_valueBetween_31 : decode cX6_valueBetween 31 = .ok (.iconst 1, 1) := by decide +kernel
theorem dX6_valueBetween_32 : decode cX6_valueBetween 32 = .ok (.isub, 1) := by decide +kernel
theorem dX6_valueBetween_33 : decode cX6_valueBetween 33 = .ok (.iload_n 1, 1) := by decide +kernel
theorem dX6_valueBetween_34 : decode cX6_valueBetween 34 = .ok (.iconst 2, 1) := by decide +kernel
theorem dX6_valueBetween_35 : decode cX6_valueBetween 35 = .ok (.iadd, 1) := by decide +kernel
theorem dX6_valueBetween_36 : decode cX6_valueBetween 36 = .ok (.invokevirtual 122, 3) := by decide +kernel
theorem dX6_valueBetween_39 : decode cX6_valueBetween 39 = .ok (.ifCond .ne 6, 3) := by decide +kernel
theorem dX6_valueBetween_42 : decode cX6_valueBetween 42 = .ok (.ldc 53, 2) := by decide +kernel
theorem dX6_valueBetween_44 : decode cX6_valueBetween 44 = .ok (.ireturn, 1) := by decide +kernel
theorem dX6_valueBetween_45 : decode cX6_valueBetween 45 = .ok (.iload_n 2, 1) := by decide +kernel
theorem dX6_valueBetween_46 : decode cX6_valueBetween 46 = .ok (.iload_n 3, 1) := by decide +kernel
theorem dX6_valueBetween_47 : decode cX6_valueBetween 47 = .ok (.iadd, 1) := by decide +kernel
theorem dX6_valueBetween_48 : decode cX6_valueBetween 48 = .ok (.i2l, 1) := by decide +kernel
theorem dX6_valueBetween_49 : decode cX6_valueBetween 49 = .ok (.lstore 4, 2) := by decide +kernel
theorem dX6_valueBetween_51 : decode cX6_valueBetween 51 = .ok (.iload_n 2, 1) := by decide +kernel
theorem dX6_valueBetween_52 : decode cX6_valueBetween 52 = .ok (.i2l, 1) := by decide +kernel
theorem dX6_valueBetween_53 : decode cX6_valueBetween 53 = .ok (.lstore 6, 2) := by decide +kernel
theorem dX6_valueBetween_55 : decode cX6_valueBetween 55 = .ok (.iload_n 2, 1) := by decide +kernel
theorem dX6_valueBetween_56 : decode cX6_valueBetween 56 = .ok (.iload_n 3, 1) := by decide +kernel
theorem dX6_valueBetween_57 : decode cX6_valueBetween 57 = .ok (.isub, 1) := by decide +kernel
theorem dX6_valueBetween_58 : decode cX6_valueBetween 58 = .ok (.i2l, 1) := by decide +kernel
theorem dX6_valueBetween_59 : decode cX6_valueBetween 59 = .ok (.lstore 8, 2) := by decide +kernel
theorem dX6_valueBetween_61 : decode cX6_valueBetween 61 = .ok (.iload_n 2, 1) := by decide +kernel
theorem dX6_valueBetween_62 : decode cX6_valueBetween 62 = .ok (.iconst 2, 1) := by decide +kernel
theorem dX6_valueBetween_63 : decode cX6_valueBetween 63 = .ok (.iload_n 3, 1) := by decide +kernel
theorem dX6_valueBetween_64 : decode cX6_valueBetween 64 = .ok (.imul, 1) := by decide +kernel
theorem dX6_valueBetween_65 : decode cX6_valueBetween 65 = .ok (.isub, 1) := by decide +kernel
theorem dX6_valueBetween_66 : decode cX6_valueBetween 66 = .ok (.i2l, 1) := by decide +kernel
theorem dX6_valueBetween_67 : decode cX6_valueBetween 67 = .ok (.lstore 10, 2) := by decide +kernel
theorem dX6_valueBetween_69 : decode cX6_valueBetween 69 = .ok (.aload_n 0, 1) := by decide +kernel
theorem dX6_valueBetween_70 : decode cX6_valueBetween 70 = .ok (.iload_n 1, 1) := by decide +kernel
theorem dX6_valueBetween_71 : decode cX6_valueBetween 71 = .ok (.iconst 1, 1) := by decide +kernel
theorem dX6_valueBetween_72 : decode cX6_valueBetween 72 = .ok (.isub, 1) := by decide +kernel
theorem dX6_valueBetween_73 : decode cX6_valueBetween 73 = .ok (.invokevirtual 111, 3) := by decide +kernel
theorem dX6_valueBetween_76 : decode cX6_valueBetween 76 = .ok (.ineg, 1) := by decide +kernel
theorem dX6_valueBetween_77 : decode cX6_valueBetween 77 = .ok (.i2l, 1) := by decide +kernel
theorem dX6_valueBetween_78 : decode cX6_valueBetween 78 = .ok (.lload 6, 2) := by decide +kernel
theorem dX6_valueBetween_80 : decode cX6_valueBetween 80 = .ok (.lmul, 1) := by decide +kernel
theorem dX6_valueBetween_81 : decode cX6_valueBetween 81 = .ok (.lload 8, 2) := by decide +kernel
theorem dX6_valueBetween_83 : decode cX6_valueBetween 83 = .ok (.lmul, 1) := by decide +kernel
theorem dX6_valueBetween_84 : decode cX6_valueBetween 84 = .ok (.lload 10, 2) := by decide +kernel
theorem dX6_valueBetween_86 : decode cX6_valueBetween 86 = .ok (.lmul, 1) := by decide +kernel
theorem dX6_valueBetween_87 : decode cX6_valueBetween 87 = .ok (.iconst 3, 1) := by decide +kernel
theorem dX6_valueBetween_88 : decode cX6_valueBetween 88 = .ok (.aload_n 0, 1) := by decide +kernel
theorem dX6_valueBetween_89 : decode cX6_valueBetween 89 = .ok (.iload_n 1, 1) := by decide +kernel
theorem dX6_valueBetween_90 : decode cX6_valueBetween 90 = .ok (.invokevirtual 111, 3) := by decide +kernel
theorem dX6_valueBetween_93 : decode cX6_valueBetween 93 = .ok (.imul, 1) := by decide +kernel
theorem dX6_valueBetween_94 : decode cX6_valueBetween 94 = .ok (.i2l, 1) := by decide +kernel
theorem dX6_valueBetween_95 : decode cX6_valueBetween 95 = .ok (.lload 4, 2) := by decide +kernel
theorem dX6_valueBetween_97 : decode cX6_valueBetween 97 = .ok (.lmul, 1) := by decide +kernel
theorem dX6_valueBetween_98 : decode cX6_valueBetween 98 = .ok (.lload 8, 2) := by decide +kernel
theorem dX6_valueBetween_100 : decode cX6_valueBetween 100 = .ok (.lmul, 1) := by decide +kernel
theorem dX6_valueBetween_101 : decode cX6_valueBetween 101 = .ok (.lload 10, 2) := by decide +kernel
theorem dX6_valueBetween_103 : decode cX6_valueBetween 103 = .ok (.lmul, 1) := by decide +kernel
theorem dX6_valueBetween_104 : decode cX6_valueBetween 104 = .ok (.ladd, 1) := by decide +kernel
theorem dX6_valueBetween_105 : decode cX6_valueBetween 105 = .ok (.iconst 3, 1) := by decide +kernel
theorem dX6_valueBetween_106 : decode cX6_valueBetween 106 = .ok (.aload_n 0, 1) := by decide +kernel
theorem dX6_valueBetween_107 : decode cX6_valueBetween 107 = .ok (.iload_n 1, 1) := by decide +kernel
theorem dX6_valueBetween_108 : decode cX6_valueBetween 108 = .ok (.iconst 1, 1) := by decide +kernel
theorem dX6_valueBetween_109 : decode cX6_valueBetween 109 = .ok (.iadd, 1) := by decide +kernel
theorem dX6_valueBetween_110 : decode cX6_valueBetween 110 = .ok (.invokevirtual 111, 3) := by decide +kernel
theorem dX6_valueBetween_113 : decode cX6_valueBetween 113 = .ok (.imul, 1) := by decide +kernel
theorem dX6_valueBetween_114 : decode cX6_valueBetween 114 = .ok (.i2l, 1) := by decide +kernel
theorem dX6_valueBetween_115 : decode cX6_valueBetween 115 = .ok (.lload 4, 2) := by decide +kernel
theorem dX6_valueBetween_117 : decode cX6_valueBetween 117 = .ok (.lmul, 1) := by decide +kernel
theorem dX6_valueBetween_118 : decode cX6_valueBetween 118 = .ok (.lload 6, 2) := by decide +kernel
theorem dX6_valueBetween_120 : decode cX6_valueBetween 120 = .ok (.lmul, 1) := by decide +kernel
theorem dX6_valueBetween_121 : decode cX6_valueBetween 121 = .ok (.lload 10, 2) := by decide +kernel
theorem dX6_valueBetween_123 : decode cX6_valueBetween 123 = .ok (.lmul, 1) := by decide +kernel
theorem dX6_valueBetween_124 : decode cX6_valueBetween 124 = .ok (.lsub, 1) := by decide +kernel
theorem dX6_valueBetween_125 : decode cX6_valueBetween 125 = .ok (.aload_n 0, 1) := by decide +kernel
theorem dX6_valueBetween_126 : decode cX6_valueBetween 126 = .ok (.iload_n 1, 1) := by decide +kernel
theorem dX6_valueBetween_127 : decode cX6_valueBetween 127 = .ok (.iconst 2, 1) := by decide +kernel
theorem dX6_valueBetween_128 : decode cX6_valueBetween 128 = .ok (.iadd, 1) := by decide +kernel
theorem dX6_valueBetween_129 : decode cX6_valueBetween 129 = .ok (.invokevirtual 111, 3) := by decide +kernel
theorem dX6_valueBetween_132 : decode cX6_valueBetween 132 = .ok (.i2l, 1) := by decide +kernel
theorem dX6_valueBetween_133 : decode cX6_valueBetween 133 = .ok (.lload 4, 2) := by decide +kernel
theorem dX6_valueBetween_135 : decode cX6_valueBetween 135 = .ok (.lmul, 1) := by decide +kernel
theorem dX6_valueBetween_136 : decode cX6_valueBetween 136 = .ok (.lload 6, 2) := by decide +kernel
theorem dX6_valueBetween_138 : decode cX6_valueBetween 138 = .ok (.lmul, 1) := by decide +kernel
theorem dX6_valueBetween_139 : decode cX6_valueBetween 139 = .ok (.lload 8, 2) := by decide +kernel
theorem dX6_valueBetween_141 : decode cX6_valueBetween 141 = .ok (.lmul, 1) := by decide +kernel
theorem dX6_valueBetween_142 : decode cX6_valueBetween 142 = .ok (.ladd, 1) := by decide +kernel
theorem dX6_valueBetween_143 : decode cX6_valueBetween 143 = .ok (.lstore 12, 2) := by decide +kernel
theorem dX6_valueBetween_145 : decode cX6_valueBetween 145 = .ok (.lload 12, 2) := by decide +kernel
theorem dX6_valueBetween_147 : decode cX6_valueBetween 147 = .ok (.ldc2_w 126, 3) := by decide +kernel
theorem dX6_valueBetween_150 : decode cX6_valueBetween 150 = .ok (.iload_n 3, 1) := by decide +kernel
theorem dX6_valueBetween_151 : decode cX6_valueBetween 151 = .ok (.i2l, 1) := by decide +kernel
theorem dX6_valueBetween_152 : decode cX6_valueBetween 152 = .ok (.lmul, 1) := by decide +kernel
theorem dX6_valueBetween_153 : decode cX6_valueBetween 153 = .ok (.iload_n 3, 1) := by decide +kernel
theorem dX6_valueBetween_154 : decode cX6_valueBetween 154 = .ok (.i2l, 1) := by decide +kernel
theorem dX6_valueBetween_155 : decode cX6_valueBetween 155 = .ok (.lmul, 1) := by decide +kernel
theorem dX6_valueBetween_156 : decode cX6_valueBetween 156 = .ok (.iload_n 3, 1) := by decide +kernel
theorem dX6_valueBetween_157 : decode cX6_valueBetween 157 = .ok (.i2l, 1) := by decide +kernel
theorem dX6_valueBetween_158 : decode cX6_valueBetween 158 = .ok (.lmul, 1) := by decide +kernel
theorem dX6_valueBetween_159 : decode cX6_valueBetween 159 = .ok (.invokestatic 128, 3) := by decide +kernel
theorem dX6_valueBetween_162 : decode cX6_valueBetween 162 = .ok (.l2i, 1) := by decide +kernel
theorem dX6_valueBetween_163 : decode cX6_valueBetween 163 = .ok (.ireturn, 1) := by decide +kernel
theorem dX6_boundAt_0 : decode cX6_boundAt 0 = .ok (.iload_n 1, 1) := by decide +kernel
theorem dX6_boundAt_1 : decode cX6_boundAt 1 = .ok (.iconst 1, 1) := by decide +kernel
theorem dX6_boundAt_2 : decode cX6_boundAt 2 = .ok (.if_icmp .lt 9, 3) := by decide +kernel
theorem dX6_boundAt_5 : decode cX6_boundAt 5 = .ok (.iload_n 1, 1) := by decide +kernel
theorem dX6_boundAt_6 : decode cX6_boundAt 6 = .ok (.bipush 20, 2) := by decide +kernel
theorem dX6_boundAt_8 : decode cX6_boundAt 8 = .ok (.if_icmp .lt 5, 3) := by decide +kernel
theorem dX6_boundAt_11 : decode cX6_boundAt 11 = .ok (.iconst (-1), 1) := by decide +kernel
theorem dX6_boundAt_12 : decode cX6_boundAt 12 = .ok (.ireturn, 1) := by decide +kernel
theorem dX6_boundAt_13 : decode cX6_boundAt 13 = .ok (.aload_n 0, 1) := by decide +kernel
theorem dX6_boundAt_14 : decode cX6_boundAt 14 = .ok (.iload_n 1, 1) := by decide +kernel
theorem dX6_boundAt_15 : decode cX6_boundAt 15 = .ok (.iconst 2, 1) := by decide +kernel
theorem dX6_boundAt_16 : decode cX6_boundAt 16 = .ok (.isub, 1) := by decide +kernel
theorem dX6_boundAt_17 : decode cX6_boundAt 17 = .ok (.invokevirtual 132, 3) := by decide +kernel
theorem dX6_boundAt_20 : decode cX6_boundAt 20 = .ok (.aload_n 0, 1) := by decide +kernel
theorem dX6_boundAt_21 : decode cX6_boundAt 21 = .ok (.iload_n 1, 1) := by decide +kernel
theorem dX6_boundAt_22 : decode cX6_boundAt 22 = .ok (.iconst 1, 1) := by decide +kernel
theorem dX6_boundAt_23 : decode cX6_boundAt 23 = .ok (.isub, 1) := by decide +kernel
theorem dX6_boundAt_24 : decode cX6_boundAt 24 = .ok (.invokevirtual 132, 3) := by decide +kernel
theorem dX6_boundAt_27 : decode cX6_boundAt 27 = .ok (.invokestatic 44, 3) := by decide +kernel
theorem dX6_boundAt_30 : decode cX6_boundAt 30 = .ok (.istore_n 2, 1) := by decide +kernel
theorem dX6_boundAt_31 : decode cX6_boundAt 31 = .ok (.iload_n 2, 1) := by decide +kernel
theorem dX6_boundAt_32 : decode cX6_boundAt 32 = .ok (.iconst (-1), 1) := by decide +kernel
theorem dX6_boundAt_33 : decode cX6_boundAt 33 = .ok (.if_icmp .ne 7, 3) := by decide +kernel
theorem dX6_boundAt_36 : decode cX6_boundAt 36 = .ok (.iconst (-1), 1) := by decide +kernel
theorem dX6_boundAt_37 : decode cX6_boundAt 37 = .ok (.goto 13, 3) := by decide +kernel
theorem dX6_boundAt_40 : decode cX6_boundAt 40 = .ok (.iconst 3, 1) := by decide +kernel
theorem dX6_boundAt_41 : decode cX6_boundAt 41 = .ok (.iload_n 2, 1) := by decide +kernel
theorem dX6_boundAt_42 : decode cX6_boundAt 42 = .ok (.imul, 1) := by decide +kernel
theorem dX6_boundAt_43 : decode cX6_boundAt 43 = .ok (.bipush 127, 2) := by decide +kernel
theorem dX6_boundAt_45 : decode cX6_boundAt 45 = .ok (.iadd, 1) := by decide +kernel
theorem dX6_boundAt_46 : decode cX6_boundAt 46 = .ok (.sipush 128, 3) := by decide +kernel
theorem dX6_boundAt_49 : decode cX6_boundAt 49 = .ok (.idiv, 1) := by decide +kernel
theorem dX6_boundAt_50 : decode cX6_boundAt 50 = .ok (.ireturn, 1) := by decide +kernel
theorem dX6_fourthDifference_0 : decode cX6_fourthDifference 0 = .ok (.aload_n 0, 1) := by decide +kernel
theorem dX6_fourthDifference_1 : decode cX6_fourthDifference 1 = .ok (.iload_n 1, 1) := by decide +kernel
theorem dX6_fourthDifference_2 : decode cX6_fourthDifference 2 = .ok (.iload_n 1, 1) := by decide +kernel
theorem dX6_fourthDifference_3 : decode cX6_fourthDifference 3 = .ok (.iconst 4, 1) := by decide +kernel
theorem dX6_fourthDifference_4 : decode cX6_fourthDifference 4 = .ok (.iadd, 1) := by decide +kernel
theorem dX6_fourthDifference_5 : decode cX6_fourthDifference 5 = .ok (.invokevirtual 122, 3) := by decide +kernel
theorem dX6_fourthDifference_8 : decode cX6_fourthDifference 8 = .ok (.ifCond .ne 5, 3) := by decide +kernel
theorem dX6_fourthDifference_11 : decode cX6_fourthDifference 11 = .ok (.iconst (-1), 1) := by decide +kernel
theorem dX6_fourthDifference_12 : decode cX6_fourthDifference 12 = .ok (.ireturn, 1) := by decide +kernel
theorem dX6_fourthDifference_13 : decode cX6_fourthDifference 13 = .ok (.aload_n 0, 1) := by decide +kernel
theorem dX6_fourthDifference_14 : decode cX6_fourthDifference 14 = .ok (.iload_n 1, 1) := by decide +kernel
theorem dX6_fourthDifference_15 : decode cX6_fourthDifference 15 = .ok (.invokevirtual 111, 3) := by decide +kernel
theorem dX6_fourthDifference_18 : decode cX6_fourthDifference 18 = .ok (.iconst 4, 1) := by decide +kernel
theorem dX6_fourthDifference_19 : decode cX6_fourthDifference 19 = .ok (.aload_n 0, 1) := by decide +kernel
theorem dX6_fourthDifference_20 : decode cX6_fourthDifference 20 = .ok (.iload_n 1, 1) := by decide +kernel
theorem dX6_fourthDifference_21 : decode cX6_fourthDifference 21 = .ok (.iconst 1, 1) := by decide +kernel
theorem dX6_fourthDifference_22 : decode cX6_fourthDifference 22 = .ok (.iadd, 1) := by decide +kernel
theorem dX6_fourthDifference_23 : decode cX6_fourthDifference 23 = .ok (.invokevirtual 111, 3) := by decide +kernel
theorem dX6_fourthDifference_26 : decode cX6_fourthDifference 26 = .ok (.imul, 1) := by decide +kernel
theorem dX6_fourthDifference_27 : decode cX6_fourthDifference 27 = .ok (.isub, 1) := by decide +kernel
theorem dX6_fourthDifference_28 : decode cX6_fourthDifference 28 = .ok (.bipush 6, 2) := by decide +kernel
theorem dX6_fourthDifference_30 : decode cX6_fourthDifference 30 = .ok (.aload_n 0, 1) := by decide +kernel
theorem dX6_fourthDifference_31 : decode cX6_fourthDifference 31 = .ok (.iload_n 1, 1) := by decide +kernel
theorem dX6_fourthDifference_32 : decode cX6_fourthDifference 32 = .ok (.iconst 2, 1) := by decide +kernel
theorem dX6_fourthDifference_33 : decode cX6_fourthDifference 33 = .ok (.iadd, 1) := by decide +kernel
theorem dX6_fourthDifference_34 : decode cX6_fourthDifference 34 = .ok (.invokevirtual 111, 3) := by decide +kernel
theorem dX6_fourthDifference_37 : decode cX6_fourthDifference 37 = .ok (.imul, 1) := by decide +kernel
theorem dX6_fourthDifference_38 : decode cX6_fourthDifference 38 = .ok (.iadd, 1) := by decide +kernel
theorem dX6_fourthDifference_39 : decode cX6_fourthDifference 39 = .ok (.iconst 4, 1) := by decide +kernel
theorem dX6_fourthDifference_40 : decode cX6_fourthDifference 40 = .ok (.aload_n 0, 1) := by decide +kernel
theorem dX6_fourthDifference_41 : decode cX6_fourthDifference 41 = .ok (.iload_n 1, 1) := by decide +kernel
theorem dX6_fourthDifference_42 : decode cX6_fourthDifference 42 = .ok (.iconst 3, 1) := by decide +kernel
theorem dX6_fourthDifference_43 : decode cX6_fourthDifference 43 = .ok (.iadd, 1) := by decide +kernel
theorem dX6_fourthDifference_44 : decode cX6_fourthDifference 44 = .ok (.invokevirtual 111, 3) := by decide +kernel
theorem dX6_fourthDifference_47 : decode cX6_fourthDifference 47 = .ok (.imul, 1) := by decide +kernel
theorem dX6_fourthDifference_48 : decode cX6_fourthDifference 48 = .ok (.isub, 1) := by decide +kernel
theorem dX6_fourthDifference_49 : decode cX6_fourthDifference 49 = .ok (.aload_n 0, 1) := by decide +kernel
theorem dX6_fourthDifference_50 : decode cX6_fourthDifference 50 = .ok (.iload_n 1, 1) := by decide +kernel
theorem dX6_fourthDifference_51 : decode cX6_fourthDifference 51 = .ok (.iconst 4, 1) := by decide +kernel
theorem dX6_fourthDifference_52 : decode cX6_fourthDifference 52 = .ok (.iadd, 1) := by decide +kernel
theorem dX6_fourthDifference_53 : decode cX6_fourthDifference 53 = .ok (.invokevirtual 111, 3) := by decide +kernel
theorem dX6_fourthDifference_56 : decode cX6_fourthDifference 56 = .ok (.iadd, 1) := by decide +kernel
theorem dX6_fourthDifference_57 : decode cX6_fourthDifference 57 = .ok (.invokestatic 135, 3) := by decide +kernel
theorem dX6_fourthDifference_60 : decode cX6_fourthDifference 60 = .ok (.ireturn, 1) := by decide +kernel
theorem dX7_init_0 : decode cX7_init 0 = .ok (.aload_n 0, 1) := by decide +kernel
theorem dX7_init_1 : decode cX7_init 1 = .ok (.invokespecial 1, 3) := by decide +kernel
theorem dX7_init_4 : decode cX7_init 4 = .ok (.aload_n 0, 1) := by decide +kernel
theorem dX7_init_5 : decode cX7_init 5 = .ok (.aload_n 1, 1) := by decide +kernel
theorem dX7_init_6 : decode cX7_init 6 = .ok (.putfield 7, 3) := by decide +kernel
theorem dX7_init_9 : decode cX7_init 9 = .ok (.return_, 1) := by decide +kernel
theorem dX8_init_0 : decode cX8_init 0 = .ok (.aload_n 0, 1) := by decide +kernel
theorem dX8_init_1 : decode cX8_init 1 = .ok (.invokespecial 3, 3) := by decide +kernel
theorem dX8_init_4 : decode cX8_init 4 = .ok (.aload_n 0, 1) := by decide +kernel
theorem dX8_init_5 : decode cX8_init 5 = .ok (.iconst 0, 1) := by decide +kernel
theorem dX8_init_6 : decode cX8_init 6 = .ok (.bipush 30, 2) := by decide +kernel
theorem dX8_init_8 : decode cX8_init 8 = .ok (.iload_n 1, 1) := by decide +kernel
theorem dX8_init_9 : decode cX8_init 9 = .ok (.invokestatic 9, 3) := by decide +kernel
theorem dX8_init_12 : decode cX8_init 12 = .ok (.invokestatic 15, 3) := by decide +kernel
theorem dX8_init_15 : decode cX8_init 15 = .ok (.putfield 18, 3) := by decide +kernel
theorem dX8_init_18 : decode cX8_init 18 = .ok (.aload_n 0, 1) := by decide +kernel
theorem dX8_init_19 : decode cX8_init 19 = .ok (.ldc 24, 2) := by decide +kernel
theorem dX8_init_21 : decode cX8_init 21 = .ok (.invokestatic 25, 3) := by decide +kernel
theorem dX8_init_24 : decode cX8_init 24 = .ok (.putfield 29, 3) := by decide +kernel
theorem dX8_init_27 : decode cX8_init 27 = .ok (.aload_n 0, 1) := by decide +kernel
theorem dX8_init_28 : decode cX8_init 28 = .ok (.iconst (-1), 1) := by decide +kernel
theorem dX8_init_29 : decode cX8_init 29 = .ok (.invokestatic 25, 3) := by decide +kernel
theorem dX8_init_32 : decode cX8_init 32 = .ok (.putfield 33, 3) := by decide +kernel
theorem dX8_init_35 : decode cX8_init 35 = .ok (.aload_n 0, 1) := by decide +kernel
theorem dX8_init_36 : decode cX8_init 36 = .ok (.iconst (-1), 1) := by decide +kernel
theorem dX8_init_37 : decode cX8_init 37 = .ok (.invokestatic 25, 3) := by decide +kernel
theorem dX8_init_40 : decode cX8_init 40 = .ok (.putfield 36, 3) := by decide +kernel
theorem dX8_init_43 : decode cX8_init 43 = .ok (.aload_n 0, 1) := by decide +kernel
theorem dX8_init_44 : decode cX8_init 44 = .ok (.ldc 24, 2) := by decide +kernel
theorem dX8_init_46 : decode cX8_init 46 = .ok (.invokestatic 25, 3) := by decide +kernel
theorem dX8_init_49 : decode cX8_init 49 = .ok (.putfield 39, 3) := by decide +kernel
theorem dX8_init_52 : decode cX8_init 52 = .ok (.aload_n 0, 1) := by decide +kernel
theorem dX8_init_53 : decode cX8_init 53 = .ok (.iconst (-1), 1) := by decide +kernel
theorem dX8_init_54 : decode cX8_init 54 = .ok (.invokestatic 25, 3) := by decide +kernel
theorem dX8_init_57 : decode cX8_init 57 = .ok (.putfield 42, 3) := by decide +kernel
theorem dX8_init_60 : decode cX8_init 60 = .ok (.aload_n 0, 1) := by decide +kernel
theorem dX8_init_61 : decode cX8_init 61 = .ok (.iconst (-1), 1) := by decide +kernel
theorem dX8_init_62 : decode cX8_init 62 = .ok (.invokestatic 25, 3) := by decide +kernel
theorem dX8_init_65 : decode cX8_init 65 = .ok (.putfield 45, 3) := by decide +kernel
theorem dX8_init_68 : decode cX8_init 68 = .ok (.aload_n 0, 1) := by decide +kernel
theorem dX8_init_69 : decode cX8_init 69 = .ok (.ldc 24, 2) := by decide +kernel
theorem dX8_init_71 : decode cX8_init 71 = .ok (.invokestatic 25, 3) := by decide +kernel
theorem dX8_init_74 : decode cX8_init 74 = .ok (.putfield 48, 3) := by decide +kernel
theorem dX8_init_77 : decode cX8_init 77 = .ok (.aload_n 0, 1) := by decide +kernel
theorem dX8_init_78 : decode cX8_init 78 = .ok (.iconst (-1), 1) := by decide +kernel
theorem dX8_init_79 : decode cX8_init 79 = .ok (.invokestatic 25, 3) := by decide +kernel
theorem dX8_init_82 : decode cX8_init 82 = .ok (.putfield 51, 3) := by decide +kernel
theorem dX8_init_85 : decode cX8_init 85 = .ok (.aload_n 0, 1) := by decide +kernel
theorem dX8_init_86 : decode cX8_init 86 = .ok (.iconst 0, 1) := by decide +kernel
theorem dX8_init_87 : decode cX8_init 87 = .ok (.invokestatic 25, 3) := by decide +kernel
theorem dX8_init_90 : decode cX8_init 90 = .ok (.putfield 54, 3) := by decide +kernel
theorem dX8_init_93 : decode cX8_init 93 = .ok (.aload_n 0, 1) := by decide +kernel
theorem dX8_init_94 : decode cX8_init 94 = .ok (.ldc 24, 2) := by decide +kernel
theorem dX8_init_96 : decode cX8_init 96 = .ok (.invokestatic 25, 3) := by decide +kernel
theorem dX8_init_99 : decode cX8_init 99 = .ok (.putfield 57, 3) := by decide +kernel
theorem dX8_init_102 : decode cX8_init 102 = .ok (.return_, 1) := by decide +kernel
theorem dX8_filled_0 : decode cX8_filled 0 = .ok (.bipush 30, 2) := by decide +kernel
theorem dX8_filled_2 : decode cX8_filled 2 = .ok (.newarray .int, 2) := by decide +kernel
theorem dX8_filled_4 : decode cX8_filled 4 = .ok (.astore_n 1, 1) := by decide +kernel
theorem dX8_filled_5 : decode cX8_filled 5 = .ok (.aload_n 1, 1) := by decide +kernel
theorem dX8_filled_6 : decode cX8_filled 6 = .ok (.iload_n 0, 1) := by decide +kernel
theorem dX8_filled_7 : decode cX8_filled 7 = .ok (.invokestatic 60, 3) := by decide +kernel
theorem dX8_filled_10 : decode cX8_filled 10 = .ok (.aload_n 1, 1) := by decide +kernel
theorem dX8_filled_11 : decode cX8_filled 11 = .ok (.areturn, 1) := by decide +kernel
theorem dX8_has_0 : decode cX8_has 0 = .ok (.iload_n 1, 1) := by decide +kernel
theorem dX8_has_1 : decode cX8_has 1 = .ok (.ifCond .lt 21, 3) := by decide +kernel
theorem dX8_has_4 : decode cX8_has 4 = .ok (.iload_n 1, 1) := by decide +kernel
theorem dX8_has_5 : decode cX8_has 5 = .ok (.aload_n 0, 1) := by decide +kernel
theorem dX8_has_6 : decode cX8_has 6 = .ok (.getfield 18, 3) := by decide +kernel
theorem dX8_has_9 : decode cX8_has 9 = .ok (.if_icmp .ge 13, 3) := by decide +kernel
theorem dX8_has_12 : decode cX8_has 12 = .ok (.iload_n 1, 1) := by decide +kernel
theorem dX8_has_13 : decode cX8_has 13 = .ok (.bipush 30, 2) := by decide +kernel
theorem dX8_has_15 : decode cX8_has 15 = .ok (.if_icmp .ge 7, 3) := by decide +kernel
theorem dX8_has_18 : decode cX8_has 18 = .ok (.iconst 1, 1) := by decide +kernel
theorem dX8_has_19 : decode cX8_has 19 = .ok (.goto 4, 3) := by decide +kernel
theorem dX8_has_22 : decode cX8_has 22 = .ok (.iconst 0, 1) := by decide +kernel
theorem dX8_has_23 : decode cX8_has 23 = .ok (.ireturn, 1) := by decide +kernel
theorem dX8_truthOf_0 : decode cX8_truthOf 0 = .ok (.aload_n 0, 1) := by decide +kernel
theorem dX8_truthOf_1 : decode cX8_truthOf 1 = .ok (.iload_n 1, 1) := by decide +kernel
theorem dX8_truthOf_2 : decode cX8_truthOf 2 = .ok (.invokevirtual 66, 3) := by decide +kernel
theorem dX8_truthOf_5 : decode cX8_truthOf 5 = .ok (.ifCond .eq 12, 3) := by decide +kernel
theorem dX8_truthOf_8 : decode cX8_truthOf 8 = .ok (.aload_n 0, 1) := by decide +kernel
theorem dX8_truthOf_9 : decode cX8_truthOf 9 = .ok (.getfield 29, 3) := by decide +kernel
theorem dX8_truthOf_12 : decode cX8_truthOf 12 = .ok (.iload_n 1, 1) := by decide +kernel
theorem dX8_truthOf_13 : decode cX8_truthOf 13 = .ok (.iaload, 1) := by decide +kernel
theorem dX8_truthOf_14 : decode cX8_truthOf 14 = .ok (.goto 5, 3) := by decide +kernel
theorem dX8_truthOf_17 : decode cX8_truthOf 17 = .ok (.ldc 24, 2) := by decide +kernel
theorem dX8_truthOf_19 : decode cX8_truthOf 19 = .ok (.ireturn, 1) := by decide +kernel
theorem dX8_isAgreed_0 : decode cX8_isAgreed 0 = .ok (.aload_n 0, 1) := by decide +kernel
theorem dX8_isAgreed_1 : decode cX8_isAgreed 1 = .ok (.iload_n 1, 1) := by decide +kernel
theorem dX8_isAgreed_2 : decode cX8_isAgreed 2 = .ok (.invokevirtual 66, 3) := by decide +kernel
theorem dX8_isAgreed_5 : decode cX8_isAgreed 5 = .ok (.ifCond .eq 17, 3) := by decide +kernel
theorem dX8_isAgreed_8 : decode cX8_isAgreed 8 = .ok (.aload_n 0, 1) := by decide +kernel
theorem dX8_isAgreed_9 : decode cX8_isAgreed 9 = .ok (.getfield 51, 3) := by decide +kernel
theorem dX8_isAgreed_12 : decode cX8_isAgreed 12 = .ok (.iload_n 1, 1) := by decide +kernel
theorem dX8_isAgreed_13 : decode cX8_isAgreed 13 = .ok (.iaload, 1) := by decide +kernel
theorem dX8_isAgreed_14 : decode cX8_isAgreed 14 = .ok (.iconst (-1), 1) := by decide +kernel
theorem dX8_isAgreed_15 : decode cX8_isAgreed 15 = .ok (.if_icmp .eq 7, 3) := by decide +kernel
theorem dX8_isAgreed_18 : decode cX8_isAgreed 18 = .ok (.iconst 1, 1) := by decide +kernel
theorem dX8_isAgreed_19 : decode cX8_isAgreed 19 = .ok (.goto 4, 3) := by decide +kernel
theorem dX8_isAgreed_22 : decode cX8_isAgreed 22 = .ok (.iconst 0, 1) := by decide +kernel
theorem dX8_isAgreed_23 : decode cX8_isAgreed 23 = .ok (.ireturn, 1) := by decide +kernel
theorem dX8_figureOf_0 : decode cX8_figureOf 0 = .ok (.aload_n 0, 1) := by decide +kernel
theorem dX8_figureOf_1 : decode cX8_figureOf 1 = .ok (.iload_n 1, 1) := by decide +kernel
theorem dX8_figureOf_2 : decode cX8_figureOf 2 = .ok (.invokevirtual 70, 3) := by decide +kernel
theorem dX8_figureOf_5 : decode cX8_figureOf 5 = .ok (.ifCond .eq 12, 3) := by decide +kernel
theorem dX8_figureOf_8 : decode cX8_figureOf 8 = .ok (.aload_n 0, 1) := by decide +kernel
theorem dX8_figureOf_9 : decode cX8_figureOf 9 = .ok (.getfield 39, 3) := by decide +kernel
theorem dX8_figureOf_12 : decode cX8_figureOf 12 = .ok (.iload_n 1, 1) := by decide +kernel
theorem dX8_figureOf_13 : decode cX8_figureOf 13 = .ok (.iaload, 1) := by decide +kernel
theorem dX8_figureOf_14 : decode cX8_figureOf 14 = .ok (.goto 5, 3) := by decide +kernel
theorem dX8_figureOf_17 : decode cX8_figureOf 17 = .ok (.ldc 24, 2) := by decide +kernel
theorem dX8_figureOf_19 : decode cX8_figureOf 19 = .ok (.ireturn, 1) := by decide +kernel
theorem dX8_isFalse_0 : decode cX8_isFalse 0 = .ok (.aload_n 0, 1) := by decide +kernel
theorem dX8_isFalse_1 : decode cX8_isFalse 1 = .ok (.iload_n 1, 1) := by decide +kernel
theorem dX8_isFalse_2 : decode cX8_isFalse 2 = .ok (.invokevirtual 70, 3) := by decide +kernel
theorem dX8_isFalse_5 : decode cX8_isFalse 5 = .ok (.ifCond .eq 22, 3) := by decide +kernel
theorem dX8_isFalse_8 : decode cX8_isFalse 8 = .ok (.aload_n 0, 1) := by decide +kernel
theorem dX8_isFalse_9 : decode cX8_isFalse 9 = .ok (.getfield 39, 3) := by decide +kernel
theorem dX8_isFalse_12 : decode cX8_isFalse 12 = .ok (.iload_n 1, 1) := by decide +kernel
theorem dX8_isFalse_13 : decode cX8_isFalse 13 = .ok (.iaload, 1) := by decide +kernel
theorem dX8_isFalse_14 : decode cX8_isFalse 14 = .ok (.aload_n 0, 1) := by decide +kernel
theorem dX8_isFalse_15 : decode cX8_isFalse 15 = .ok (.getfield 29, 3) := by decide +kernel
theorem dX8_isFalse_18 : decode cX8_isFalse 18 = .ok (.iload_n 1, 1) := by decide +kernel
theorem dX8_isFalse_19 : decode cX8_isFalse 19 = .ok (.iaload, 1) := by decide +kernel
theorem dX8_isFalse_20 : decode cX8_isFalse 20 = .ok (.if_icmp .eq 7, 3) := by decide +kernel
theorem dX8_isFalse_23 : decode cX8_isFalse 23 = .ok (.iconst 1, 1) := by decide +kernel
theorem dX8_isFalse_24 : decode cX8_isFalse 24 = .ok (.goto 4, 3) := by decide +kernel
theorem dX8_isFalse_27 : decode cX8_isFalse 27 = .ok (.iconst 0, 1) := by decide +kernel
theorem dX8_isFalse_28 : decode cX8_isFalse 28 = .ok (.ireturn, 1) := by decide +kernel
theorem dX8_falsehood_0 : decode cX8_falsehood 0 = .ok (.aload_n 0, 1) := by decide +kernel
theorem dX8_falsehood_1 : decode cX8_falsehood 1 = .ok (.iload_n 1, 1) := by decide +kernel
theorem dX8_falsehood_2 : decode cX8_falsehood 2 = .ok (.invokevirtual 70, 3) := by decide +kernel
theorem dX8_falsehood_5 : decode cX8_falsehood 5 = .ok (.ifCond .ne 5, 3) := by decide +kernel
theorem dX8_falsehood_8 : decode cX8_falsehood 8 = .ok (.iconst (-1), 1) := by decide +kernel
theorem dX8_falsehood_9 : decode cX8_falsehood 9 = .ok (.ireturn, 1) := by decide +kernel
theorem dX8_falsehood_10 : decode cX8_falsehood 10 = .ok (.aload_n 0, 1) := by decide +kernel
theorem dX8_falsehood_11 : decode cX8_falsehood 11 = .ok (.iload_n 1, 1) := by decide +kernel
theorem dX8_falsehood_12 : decode cX8_falsehood 12 = .ok (.invokevirtual 73, 3) := by decide +kernel
theorem dX8_falsehood_15 : decode cX8_falsehood 15 = .ok (.ifCond .eq 7, 3) := by decide +kernel
theorem dX8_falsehood_18 : decode cX8_falsehood 18 = .ok (.iconst 1, 1) := by decide +kernel
theorem dX8_falsehood_19 : decode cX8_falsehood 19 = .ok (.goto 4, 3) := by decide +kernel
theorem dX8_falsehood_22 : decode cX8_falsehood 22 = .ok (.iconst 0, 1) := by decide +kernel
theorem dX8_falsehood_23 : decode cX8_falsehood 23 = .ok (.ireturn, 1) := by decide +kernel
theorem dX8_mayWork_0 : decode cX8_mayWork 0 = .ok (.aload_n 0, 1) := by decide +kernel
theorem dX8_mayWork_1 : decode cX8_mayWork 1 = .ok (.getfield 76, 3) := by decide +kernel
theorem dX8_mayWork_4 : decode cX8_mayWork 4 = .ok (.ifCond .ne 21, 3) := by decide +kernel
theorem dX8_mayWork_7 : decode cX8_mayWork 7 = .ok (.aload_n 0, 1) := by decide +kernel
theorem dX8_mayWork_8 : decode cX8_mayWork 8 = .ok (.iload_n 2, 1) := by decide +kernel
theorem dX8_mayWork_9 : decode cX8_mayWork 9 = .ok (.invokevirtual 70, 3) := by decide +kernel
theorem dX8_mayWork_12 : decode cX8_mayWork 12 = .ok (.ifCond .ne 13, 3) := by decide +kernel
theorem dX8_mayWork_15 : decode cX8_mayWork 15 = .ok (.aload_n 0, 1) := by decide +kernel
theorem dX8_mayWork_16 : decode cX8_mayWork 16 = .ok (.iload_n 2, 1) := by decide +kernel
theorem dX8_mayWork_17 : decode cX8_mayWork 17 = .ok (.invokevirtual 80, 3) := by decide +kernel
theorem dX8_mayWork_20 : decode cX8_mayWork 20 = .ok (.ldc 24, 2) := by decide +kernel
theorem dX8_mayWork_22 : decode cX8_mayWork 22 = .ok (.if_icmp .ne 5, 3) := by decide +kernel
theorem dX8_mayWork_25 : decode cX8_mayWork 25 = .ok (.iconst 0, 1) := by decide +kernel
theorem dX8_mayWork_26 : decode cX8_mayWork 26 = .ok (.ireturn, 1) := by decide +kernel
theorem dX8_mayWork_27 : decode cX8_mayWork 27 = .ok (.aload_n 0, 1) := by decide +kernel
theorem dX8_mayWork_28 : decode cX8_mayWork 28 = .ok (.getfield 42, 3) := by decide +kernel
theorem dX8_mayWork_31 : decode cX8_mayWork 31 = .ok (.iload_n 2, 1) := by decide +kernel
theorem dX8_mayWork_32 : decode cX8_mayWork 32 = .ok (.iaload, 1) := by decide +kernel
theorem dX8_mayWork_33 : decode cX8_mayWork 33 = .ok (.iconst (-1), 1) := by decide +kernel
theorem dX8_mayWork_34 : decode cX8_mayWork 34 = .ok (.if_icmp .ne 19, 3) := by decide +kernel
theorem dX8_mayWork_37 : decode cX8_mayWork 37 = .ok (.aload_n 0, 1) := by decide +kernel
theorem dX8_mayWork_38 : decode cX8_mayWork 38 = .ok (.getfield 33, 3) := by decide +kernel
theorem dX8_mayWork_41 : decode cX8_mayWork 41 = .ok (.iload_n 2, 1) := by decide +kernel
theorem dX8_mayWork_42 : decode cX8_mayWork 42 = .ok (.iaload, 1) := by decide +kernel
theorem dX8_mayWork_43 : decode cX8_mayWork 43 = .ok (.iload_n 1, 1) := by decide +kernel
theorem dX8_mayWork_44 : decode cX8_mayWork 44 = .ok (.if_icmp .eq 7, 3) := by decide +kernel
theorem dX8_mayWork_47 : decode cX8_mayWork 47 = .ok (.iconst 1, 1) := by decide +kernel
theorem dX8_mayWork_48 : decode cX8_mayWork 48 = .ok (.goto 4, 3) := by decide +kernel
theorem dX8_mayWork_51 : decode cX8_mayWork 51 = .ok (.iconst 0, 1) := by decide +kernel
theorem dX8_mayWork_52 : decode cX8_mayWork 52 = .ok (.ireturn, 1) := by decide +kernel
theorem dX8_mayWork_53 : decode cX8_mayWork 53 = .ok (.aload_n 0, 1) := by decide +kernel
theorem dX8_mayWork_54 : decode cX8_mayWork 54 = .ok (.getfield 33, 3) := by decide +kernel
theorem dX8_mayWork_57 : decode cX8_mayWork 57 = .ok (.iload_n 2, 1) := by decide +kernel
theorem dX8_mayWork_58 : decode cX8_mayWork 58 = .ok (.iaload, 1) := by decide +kernel
theorem dX8_mayWork_59 : decode cX8_mayWork 59 = .ok (.iload_n 1, 1) := by decide +kernel
theorem dX8_mayWork_60 : decode cX8_mayWork 60 = .ok (.if_icmp .eq 13, 3) := by decide +kernel
theorem dX8_mayWork_63 : decode cX8_mayWork 63 = .ok (.aload_n 0, 1) := by decide +kernel
theorem dX8_mayWork_64 : decode cX8_mayWork 64 = .ok (.getfield 42, 3) := by decide +kernel
theorem dX8_mayWork_67 : decode cX8_mayWork 67 = .ok (.iload_n 2, 1) := by decide +kernel
theorem dX8_mayWork_68 : decode cX8_mayWork 68 = .ok (.iaload, 1) := by decide +kernel
theorem dX8_mayWork_69 : decode cX8_mayWork 69 = .ok (.iload_n 1, 1) := by decide +kernel
theorem dX8_mayWork_70 : decode cX8_mayWork 70 = .ok (.if_icmp .ne 7, 3) := by decide +kernel
theorem dX8_mayWork_73 : decode cX8_mayWork 73 = .ok (.iconst 1, 1) := by decide +kernel
theorem dX8_mayWork_74 : decode cX8_mayWork 74 = .ok (.goto 4, 3) := by decide +kernel
theorem dX8_mayWork_77 : decode cX8_mayWork 77 = .ok (.iconst 0, 1) := by decide +kernel
theorem dX8_mayWork_78 : decode cX8_mayWork 78 = .ok (.ireturn, 1) := by decide +kernel
theorem dX8_takeWork_0 : decode cX8_takeWork 0 = .ok (.aload_n 0, 1) := by decide +kernel
theorem dX8_takeWork_1 : decode cX8_takeWork 1 = .ok (.iload_n 3, 1) := by decide +kernel
theorem dX8_takeWork_2 : decode cX8_takeWork 2 = .ok (.invokevirtual 66, 3) := by decide +kernel
theorem dX8_takeWork_5 : decode cX8_takeWork 5 = .ok (.ifCond .ne 4, 3) := by decide +kernel
theorem dX8_takeWork_8 : decode cX8_takeWork 8 = .ok (.return_, 1) := by decide +kernel
theorem dX8_takeWork_9 : decode cX8_takeWork 9 = .ok (.aload_n 0, 1) := by decide +kernel
theorem dX8_takeWork_10 : decode cX8_takeWork 10 = .ok (.getfield 33, 3) := by decide +kernel
theorem dX8_takeWork_13 : decode cX8_takeWork 13 = .ok (.iload_n 3, 1) := by decide +kernel
theorem dX8_takeWork_14 : decode cX8_takeWork 14 = .ok (.iaload, 1) := by decide +kernel
theorem dX8_takeWork_15 : decode cX8_takeWork 15 = .ok (.iconst (-1), 1) := by decide +kernel
theorem dX8_takeWork_16 : decode cX8_takeWork 16 = .ok (.if_icmp .eq 13, 3) := by decide +kernel
theorem dX8_takeWork_19 : decode cX8_takeWork 19 = .ok (.aload_n 0, 1) := by decide +kernel
theorem dX8_takeWork_20 : decode cX8_takeWork 20 = .ok (.getfield 33, 3) := by decide +kernel
theorem dX8_takeWork_23 : decode cX8_takeWork 23 = .ok (.iload_n 3, 1) := by decide +kernel
theorem dX8_takeWork_24 : decode cX8_takeWork 24 = .ok (.iaload, 1) := by decide +kernel
theorem dX8_takeWork_25 : decode cX8_takeWork 25 = .ok (.iload_n 1, 1) := by decide +kernel
theorem dX8_takeWork_26 : decode cX8_takeWork 26 = .ok (.if_icmp .ne 28, 3) := by decide +kernel
theorem dX8_takeWork_29 : decode cX8_takeWork 29 = .ok (.aload_n 0, 1) := by decide +kernel
theorem dX8_takeWork_30 : decode cX8_takeWork 30 = .ok (.getfield 33, 3) := by decide +kernel
theorem dX8_takeWork_33 : decode cX8_takeWork 33 = .ok (.iload_n 3, 1) := by decide +kernel
theorem dX8_takeWork_34 : decode cX8_takeWork 34 = .ok (.iload_n 1, 1) := by decide +kernel
theorem dX8_takeWork_35 : decode cX8_takeWork 35 = .ok (.iastore, 1) := by decide +kernel
theorem dX8_takeWork_36 : decode cX8_takeWork 36 = .ok (.aload_n 0, 1) := by decide +kernel
theorem dX8_takeWork_37 : decode cX8_takeWork 37 = .ok (.getfield 36, 3) := by decide +kernel
theorem dX8_takeWork_40 : decode cX8_takeWork 40 = .ok (.iload_n 3, 1) := by decide +kernel
theorem dX8_takeWork_41 : decode cX8_takeWork 41 = .ok (.iload_n 2, 1) := by decide +kernel
theorem dX8_takeWork_42 : decode cX8_takeWork 42 = .ok (.iastore, 1) := by decide +kernel
theorem dX8_takeWork_43 : decode cX8_takeWork 43 = .ok (.aload_n 0, 1) := by decide +kernel
theorem dX8_takeWork_44 : decode cX8_takeWork 44 = .ok (.getfield 39, 3) := by decide +kernel
theorem dX8_takeWork_47 : decode cX8_takeWork 47 = .ok (.iload_n 3, 1) := by decide +kernel
theorem dX8_takeWork_48 : decode cX8_takeWork 48 = .ok (.iload 4, 2) := by decide +kernel
theorem dX8_takeWork_50 : decode cX8_takeWork 50 = .ok (.iastore, 1) := by decide +kernel
theorem dX8_takeWork_51 : decode cX8_takeWork 51 = .ok (.goto 25, 3) := by decide +kernel
theorem dX8_takeWork_54 : decode cX8_takeWork 54 = .ok (.aload_n 0, 1) := by decide +kernel
theorem dX8_takeWork_55 : decode cX8_takeWork 55 = .ok (.getfield 42, 3) := by decide +kernel
theorem dX8_takeWork_58 : decode cX8_takeWork 58 = .ok (.iload_n 3, 1) := by decide +kernel
theorem dX8_takeWork_59 : decode cX8_takeWork 59 = .ok (.iload_n 1, 1) := by decide +kernel
theorem dX8_takeWork_60 : decode cX8_takeWork 60 = .ok (.iastore, 1) := by decide +kernel
theorem dX8_takeWork_61 : decode cX8_takeWork 61 = .ok (.aload_n 0, 1) := by decide +kernel
theorem dX8_takeWork_62 : decode cX8_takeWork 62 = .ok (.getfield 45, 3) := by decide +kernel
theorem dX8_takeWork_65 : decode cX8_takeWork 65 = .ok (.iload_n 3, 1) := by decide +kernel
theorem dX8_takeWork_66 : decode cX8_takeWork 66 = .ok (.iload_n 2, 1) := by decide +kernel
theorem dX8_takeWork_67 : decode cX8_takeWork 67 = .ok (.iastore, 1) := by decide +kernel
theorem dX8_takeWork_68 : decode cX8_takeWork 68 = .ok (.aload_n 0, 1) := by decide +kernel
theorem dX8_takeWork_69 : decode cX8_takeWork 69 = .ok (.getfield 48, 3) := by decide +kernel
theorem dX8_takeWork_72 : decode cX8_takeWork 72 = .ok (.iload_n 3, 1) := by decide +kernel
theorem dX8_takeWork_73 : decode cX8_takeWork 73 = .ok (.iload 4, 2) := by decide +kernel
theorem dX8_takeWork_75 : decode cX8_takeWork 75 = .ok (.iastore, 1) := by decide +kernel
theorem dX8_takeWork_76 : decode cX8_takeWork 76 = .ok (.aload_n 0, 1) := by decide +kernel
theorem dX8_takeWork_77 : decode cX8_takeWork 77 = .ok (.getfield 42, 3) := by decide +kernel
theorem dX8_takeWork_80 : decode cX8_takeWork 80 = .ok (.iload_n 3, 1) := by decide +kernel
theorem dX8_takeWork_81 : decode cX8_takeWork 81 = .ok (.iaload, 1) := by decide +kernel
theorem dX8_takeWork_82 : decode cX8_takeWork 82 = .ok (.iconst (-1), 1) := by decide +kernel
theorem dX8_takeWork_83 : decode cX8_takeWork 83 = .ok (.if_icmp .eq 7, 3) := by decide +kernel
theorem dX8_takeWork_86 : decode cX8_takeWork 86 = .ok (.iconst 1, 1) := by decide +kernel
theorem dX8_takeWork_87 : decode cX8_takeWork 87 = .ok (.goto 4, 3) := by decide +kernel
theorem dX8_takeWork_90 : decode cX8_takeWork 90 = .ok (.iconst 0, 1) := by decide +kernel
theorem dX8_takeWork_91 : decode cX8_takeWork 91 = .ok (.istore 6, 2) := by decide +kernel
theorem dX8_takeWork_93 : decode cX8_takeWork 93 = .ok (.iload 6, 2) := by decide +kernel
theorem dX8_takeWork_95 : decode cX8_takeWork 95 = .ok (.ifCond .eq 41, 3) := by decide +kernel
theorem dX8_takeWork_98 : decode cX8_takeWork 98 = .ok (.aload_n 0, 1) := by decide +kernel
theorem dX8_takeWork_99 : decode cX8_takeWork 99 = .ok (.getfield 39, 3) := by decide +kernel
theorem dX8_takeWork_102 : decode cX8_takeWork 102 = .ok (.iload_n 3, 1) := by decide +kernel
theorem dX8_takeWork_103 : decode cX8_takeWork 103 = .ok (.iaload, 1) := by decide +kernel
theorem dX8_takeWork_104 : decode cX8_takeWork 104 = .ok (.aload_n 0, 1) := by decide +kernel
theorem dX8_takeWork_105 : decode cX8_takeWork 105 = .ok (.getfield 48, 3) := by decide +kernel
theorem dX8_takeWork_108 : decode cX8_takeWork 108 = .ok (.iload_n 3, 1) := by decide +kernel
theorem dX8_takeWork_109 : decode cX8_takeWork 109 = .ok (.iaload, 1) := by decide +kernel
theorem dX8_takeWork_110 : decode cX8_takeWork 110 = .ok (.if_icmp .ne 26, 3) := by decide +kernel
theorem dX8_takeWork_113 : decode cX8_takeWork 113 = .ok (.aload_n 0, 1) := by decide +kernel
theorem dX8_takeWork_114 : decode cX8_takeWork 114 = .ok (.getfield 36, 3) := by decide +kernel
theorem dX8_takeWork_117 : decode cX8_takeWork 117 = .ok (.iload_n 3, 1) := by decide +kernel
theorem dX8_takeWork_118 : decode cX8_takeWork 118 = .ok (.iaload, 1) := by decide +kernel
theorem dX8_takeWork_119 : decode cX8_takeWork 119 = .ok (.aload_n 0, 1) := by decide +kernel
theorem dX8_takeWork_120 : decode cX8_takeWork 120 = .ok (.getfield 45, 3) := by decide +kernel
theorem dX8_takeWork_123 : decode cX8_takeWork 123 = .ok (.iload_n 3, 1) := by decide +kernel
theorem dX8_takeWork_124 : decode cX8_takeWork 124 = .ok (.iaload, 1) := by decide +kernel
theorem dX8_takeWork_125 : decode cX8_takeWork 125 = .ok (.if_icmp .eq 11, 3) := by decide +kernel
theorem dX8_takeWork_128 : decode cX8_takeWork 128 = .ok (.aload_n 0, 1) := by decide +kernel
theorem dX8_takeWork_129 : decode cX8_takeWork 129 = .ok (.getfield 51, 3) := by decide +kernel
theorem dX8_takeWork_132 : decode cX8_takeWork 132 = .ok (.iload_n 3, 1) := by decide +kernel
theorem dX8_takeWork_133 : decode cX8_takeWork 133 = .ok (.iload 5, 2) := by decide +kernel
theorem dX8_takeWork_135 : decode cX8_takeWork 135 = .ok (.iastore, 1) := by decide +kernel
theorem dX8_takeWork_136 : decode cX8_takeWork 136 = .ok (.return_, 1) := by decide +kernel
theorem dX8_allAgreed_0 : decode cX8_allAgreed 0 = .ok (.iconst 0, 1) := by decide +kernel
theorem dX8_allAgreed_1 : decode cX8_allAgreed 1 = .ok (.istore_n 1, 1) := by decide +kernel
theorem dX8_allAgreed_2 : decode cX8_allAgreed 2 = .ok (.iload_n 1, 1) := by decide +kernel
theorem dX8_allAgreed_3 : decode cX8_allAgreed 3 = .ok (.aload_n 0, 1) := by decide +kernel
theorem dX8_allAgreed_4 : decode cX8_allAgreed 4 = .ok (.getfield 18, 3) := by decide +kernel
theorem dX8_allAgreed_7 : decode cX8_allAgreed 7 = .ok (.if_icmp .ge 29, 3) := by decide +kernel
theorem dX8_allAgreed_10 : decode cX8_allAgreed 10 = .ok (.aload_n 0, 1) := by decide +kernel
theorem dX8_allAgreed_11 : decode cX8_allAgreed 11 = .ok (.iload_n 1, 1) := by decide +kernel
theorem dX8_allAgreed_12 : decode cX8_allAgreed 12 = .ok (.invokevirtual 80, 3) := by decide +kernel
theorem dX8_allAgreed_15 : decode cX8_allAgreed 15 = .ok (.ldc 24, 2) := by decide +kernel
theorem dX8_allAgreed_17 : decode cX8_allAgreed 17 = .ok (.if_icmp .eq 13, 3) := by decide +kernel
theorem dX8_allAgreed_20 : decode cX8_allAgreed 20 = .ok (.aload_n 0, 1) := by decide +kernel
theorem dX8_allAgreed_21 : decode cX8_allAgreed 21 = .ok (.iload_n 1, 1) := by decide +kernel
theorem dX8_allAgreed_22 : decode cX8_allAgreed 22 = .ok (.invokevirtual 70, 3) := by decide +kernel
theorem dX8_allAgreed_25 : decode cX8_allAgreed 25 = .ok (.ifCond .ne 5, 3) := by decide +kernel
theorem dX8_allAgreed_28 : decode cX8_allAgreed 28 = .ok (.iconst 0, 1) := by decide +kernel
theorem dX8_allAgreed_29 : decode cX8_allAgreed 29 = .ok (.ireturn, 1) := by decide +kernel
theorem dX8_allAgreed_30 : decode cX8_allAgreed 30 = .ok (.iinc 1 1, 3) := by decide +kernel
theorem dX8_allAgreed_33 : decode cX8_allAgreed 33 = .ok (.goto (-31), 3) := by decide +kernel
theorem dX8_allAgreed_36 : decode cX8_allAgreed 36 = .ok (.iconst 1, 1) := by decide +kernel
theorem dX8_allAgreed_37 : decode cX8_allAgreed 37 = .ok (.ireturn, 1) := by decide +kernel
theorem dX8_agreedEntries_0 : decode cX8_agreedEntries 0 = .ok (.iconst 0, 1) := by decide +kernel
theorem dX8_agreedEntries_1 : decode cX8_agreedEntries 1 = .ok (.istore_n 1, 1) := by decide +kernel
theorem dX8_agreedEntries_2 : decode cX8_agreedEntries 2 = .ok (.iconst 0, 1) := by decide +kernel
theorem dX8_agreedEntries_3 : decode cX8_agreedEntries 3 = .ok (.istore_n 2, 1) := by decide +kernel
theorem dX8_agreedEntries_4 : decode cX8_agreedEntries 4 = .ok (.iload_n 2, 1) := by decide +kernel
theorem dX8_agreedEntries_5 : decode cX8_agreedEntries 5 = .ok (.aload_n 0, 1) := by decide +kernel
theorem dX8_agreedEntries_6 : decode cX8_agreedEntries 6 = .ok (.getfield 18, 3) := by decide +kernel
theorem dX8_agreedEntries_9 : decode cX8_agreedEntries 9 = .ok (.if_icmp .ge 25, 3) := by decide +kernel
theorem dX8_agreedEntries_12 : decode cX8_agreedEntries 12 = .ok (.iload_n 1, 1) := by decide +kernel
theorem dX8_agreedEntries_13 : decode cX8_agreedEntries 13 = .ok (.aload_n 0, 1) := by decide +kernel
theorem dX8_agreedEntries_14 : decode cX8_agreedEntries 14 = .ok (.iload_n 2, 1) := by decide +kernel
theorem dX8_agreedEntries_15 : decode cX8_agreedEntries 15 = .ok (.invokevirtual 70, 3) := by decide +kernel
theorem dX8_agreedEntries_18 : decode cX8_agreedEntries 18 = .ok (.ifCond .eq 7, 3) := by decide +kernel
theorem dX8_agreedEntries_21 : decode cX8_agreedEntries 21 = .ok (.iconst 1, 1) := by decide +kernel
theorem dX8_agreedEntries_22 : decode cX8_agreedEntries 22 = .ok (.goto 4, 3) := by decide +kernel
theorem dX8_agreedEntries_25 : decode cX8_agreedEntries 25 = .ok (.iconst 0, 1) := by decide +kernel
theorem dX8_agreedEntries_26 : decode cX8_agreedEntries 26 = .ok (.iadd, 1) := by decide +kernel
theorem dX8_agreedEntries_27 : decode cX8_agreedEntries 27 = .ok (.istore_n 1, 1) := by decide +kernel
theorem dX8_agreedEntries_28 : decode cX8_agreedEntries 28 = .ok (.iinc 2 1, 3) := by decide +kernel
theorem dX8_agreedEntries_31 : decode cX8_agreedEntries 31 = .ok (.goto (-27), 3) := by decide +kernel
theorem dX8_agreedEntries_34 : decode cX8_agreedEntries 34 = .ok (.iload_n 1, 1) := by decide +kernel
theorem dX8_agreedEntries_35 : decode cX8_agreedEntries 35 = .ok (.ireturn, 1) := by decide +kernel
theorem dX8_falseEntries_0 : decode cX8_falseEntries 0 = .ok (.iconst 0, 1) := by decide +kernel
theorem dX8_falseEntries_1 : decode cX8_falseEntries 1 = .ok (.istore_n 1, 1) := by decide +kernel
theorem dX8_falseEntries_2 : decode cX8_falseEntries 2 = .ok (.iconst 0, 1) := by decide +kernel
theorem dX8_falseEntries_3 : decode cX8_falseEntries 3 = .ok (.istore_n 2, 1) := by decide +kernel
theorem dX8_falseEntries_4 : decode cX8_falseEntries 4 = .ok (.iload_n 2, 1) := by decide +kernel
theorem dX8_falseEntries_5 : decode cX8_falseEntries 5 = .ok (.aload_n 0, 1) := by decide +kernel
theorem dX8_falseEntries_6 : decode cX8_falseEntries 6 = .ok (.getfield 18, 3) := by decide +kernel
theorem dX8_falseEntries_9 : decode cX8_falseEntries 9 = .ok (.if_icmp .ge 25, 3) := by decide +kernel
theorem dX8_falseEntries_12 : decode cX8_falseEntries 12 = .ok (.iload_n 1, 1) := by decide +kernel
theorem dX8_falseEntries_13 : decode cX8_falseEntries 13 = .ok (.aload_n 0, 1) := by decide +kernel
theorem dX8_falseEntries_14 : decode cX8_falseEntries 14 = .ok (.iload_n 2, 1) := by decide +kernel
theorem dX8_falseEntries_15 : decode cX8_falseEntries 15 = .ok (.invokevirtual 73, 3) := by decide +kernel
theorem dX8_falseEntries_18 : decode cX8_falseEntries 18 = .ok (.ifCond .eq 7, 3) := by decide +kernel
theorem dX8_falseEntries_21 : decode cX8_falseEntries 21 = .ok (.iconst 1, 1) := by decide +kernel
theorem dX8_falseEntries_22 : decode cX8_falseEntries 22 = .ok (.goto 4, 3) := by decide +kernel
theorem dX8_falseEntries_25 : decode cX8_falseEntries 25 = .ok (.iconst 0, 1) := by decide +kernel
theorem dX8_falseEntries_26 : decode cX8_falseEntries 26 = .ok (.iadd, 1) := by decide +kernel
theorem dX8_falseEntries_27 : decode cX8_falseEntries 27 = .ok (.istore_n 1, 1) := by decide +kernel
theorem dX8_falseEntries_28 : decode cX8_falseEntries 28 = .ok (.iinc 2 1, 3) := by decide +kernel
theorem dX8_falseEntries_31 : decode cX8_falseEntries 31 = .ok (.goto (-27), 3) := by decide +kernel
theorem dX8_falseEntries_34 : decode cX8_falseEntries 34 = .ok (.iload_n 1, 1) := by decide +kernel
theorem dX8_falseEntries_35 : decode cX8_falseEntries 35 = .ok (.ireturn, 1) := by decide +kernel
theorem dX8_differences_0 : decode cX8_differences 0 = .ok (.aload_n 0, 1) := by decide +kernel
theorem dX8_differences_1 : decode cX8_differences 1 = .ok (.iload_n 1, 1) := by decide +kernel
theorem dX8_differences_2 : decode cX8_differences 2 = .ok (.invokevirtual 66, 3) := by decide +kernel
theorem dX8_differences_5 : decode cX8_differences 5 = .ok (.ifCond .eq 24, 3) := by decide +kernel
theorem dX8_differences_8 : decode cX8_differences 8 = .ok (.iload_n 2, 1) := by decide +kernel
theorem dX8_differences_9 : decode cX8_differences 9 = .ok (.iconst 1, 1) := by decide +kernel
theorem dX8_differences_10 : decode cX8_differences 10 = .ok (.if_icmp .lt 19, 3) := by decide +kernel
theorem dX8_differences_13 : decode cX8_differences 13 = .ok (.iload_n 2, 1) := by decide +kernel
theorem dX8_differences_14 : decode cX8_differences 14 = .ok (.aload_n 3, 1) := by decide +kernel
theorem dX8_differences_15 : decode cX8_differences 15 = .ok (.arraylength, 1) := by decide +kernel
theorem dX8_differences_16 : decode cX8_differences 16 = .ok (.if_icmp .ge 13, 3) := by decide +kernel
theorem dX8_differences_19 : decode cX8_differences 19 = .ok (.aload_n 0, 1) := by decide +kernel
theorem dX8_differences_20 : decode cX8_differences 20 = .ok (.iload_n 1, 1) := by decide +kernel
theorem dX8_differences_21 : decode cX8_differences 21 = .ok (.iload_n 2, 1) := by decide +kernel
theorem dX8_differences_22 : decode cX8_differences 22 = .ok (.iadd, 1) := by decide +kernel
theorem dX8_differences_23 : decode cX8_differences 23 = .ok (.invokevirtual 66, 3) := by decide +kernel
theorem dX8_differences_26 : decode cX8_differences 26 = .ok (.ifCond .ne 5, 3) := by decide +kernel
theorem dX8_differences_29 : decode cX8_differences 29 = .ok (.iconst 0, 1) := by decide +kernel
theorem dX8_differences_30 : decode cX8_differences 30 = .ok (.ireturn, 1) := by decide +kernel
theorem dX8_differences_31 : decode cX8_differences 31 = .ok (.aload_n 3, 1) := by decide +kernel
theorem dX8_differences_32 : decode cX8_differences 32 = .ok (.lconst 0, 1) := by decide +kernel
theorem dX8_differences_33 : decode cX8_differences 33 = .ok (.invokestatic 84, 3) := by decide +kernel
theorem dX8_differences_36 : decode cX8_differences 36 = .ok (.iconst 0, 1) := by decide +kernel
theorem dX8_differences_37 : decode cX8_differences 37 = .ok (.istore 4, 2) := by decide +kernel
theorem dX8_differences_39 : decode cX8_differences 39 = .ok (.iload 4, 2) := by decide +kernel
theorem dX8_differences_41 : decode cX8_differences 41 = .ok (.iload_n 2, 1) := by decide +kernel
theorem dX8_differences_42 : decode cX8_differences 42 = .ok (.if_icmp .gt 37, 3) := by decide +kernel
theorem dX8_differences_45 : decode cX8_differences 45 = .ok (.aload_n 0, 1) := by decide +kernel
theorem dX8_differences_46 : decode cX8_differences 46 = .ok (.iload_n 1, 1) := by decide +kernel
theorem dX8_differences_47 : decode cX8_differences 47 = .ok (.iload 4, 2) := by decide +kernel
theorem dX8_differences_49 : decode cX8_differences 49 = .ok (.iadd, 1) := by decide +kernel
theorem dX8_differences_50 : decode cX8_differences 50 = .ok (.invokevirtual 80, 3) := by decide +kernel
theorem dX8_differences_53 : decode cX8_differences 53 = .ok (.ldc 24, 2) := by decide +kernel
theorem dX8_differences_55 : decode cX8_differences 55 = .ok (.if_icmp .ne 5, 3) := by decide +kernel
theorem dX8_differences_58 : decode cX8_differences 58 = .ok (.iconst 0, 1) := by decide +kernel
theorem dX8_differences_59 : decode cX8_differences 59 = .ok (.ireturn, 1) := by decide +kernel
theorem dX8_differences_60 : decode cX8_differences 60 = .ok (.aload_n 3, 1) := by decide +kernel
theorem dX8_differences_61 : decode cX8_differences 61 = .ok (.iload 4, 2) := by decide +kernel
theorem dX8_differences_63 : decode cX8_differences 63 = .ok (.aload_n 0, 1) := by decide +kernel
theorem dX8_differences_64 : decode cX8_differences 64 = .ok (.iload_n 1, 1) := by decide +kernel
theorem dX8_differences_65 : decode cX8_differences 65 = .ok (.iload 4, 2) := by decide +kernel
theorem dX8_differences_67 : decode cX8_differences 67 = .ok (.iadd, 1) := by decide +kernel
theorem dX8_differences_68 : decode cX8_differences 68 = .ok (.invokevirtual 80, 3) := by decide +kernel
theorem dX8_differences_71 : decode cX8_differences 71 = .ok (.i2l, 1) := by decide +kernel
theorem dX8_differences_72 : decode cX8_differences 72 = .ok (.lastore, 1) := by decide +kernel
theorem dX8_differences_73 : decode cX8_differences 73 = .ok (.iinc 4 1, 3) := by decide +kernel
theorem dX8_differences_76 : decode cX8_differences 76 = .ok (.goto (-37), 3) := by decide +kernel
theorem dX8_differences_79 : decode cX8_differences 79 = .ok (.iconst 1, 1) := by decide +kernel
theorem dX8_differences_80 : decode cX8_differences 80 = .ok (.istore 4, 2) := by decide +kernel
theorem dX8_differences_82 : decode cX8_differences 82 = .ok (.iload 4, 2) := by decide +kernel
theorem dX8_differences_84 : decode cX8_differences 84 = .ok (.iload_n 2, 1) := by decide +kernel
theorem dX8_differences_85 : decode cX8_differences 85 = .ok (.if_icmp .gt 38, 3) := by decide +kernel
theorem dX8_differences_88 : decode cX8_differences 88 = .ok (.iload_n 2, 1) := by decide +kernel
theorem dX8_differences_89 : decode cX8_differences 89 = .ok (.istore 5, 2) := by decide +kernel
theorem dX8_differences_91 : decode cX8_differences 91 = .ok (.iload 5, 2) := by decide +kernel
theorem dX8_differences_93 : decode cX8_differences 93 = .ok (.iload 4, 2) := by decide +kernel
theorem dX8_differences_95 : decode cX8_differences 95 = .ok (.if_icmp .lt 22, 3) := by decide +kernel
theorem dX8_differences_98 : decode cX8_differences 98 = .ok (.aload_n 3, 1) := by decide +kernel
theorem dX8_differences_99 : decode cX8_differences 99 = .ok (.iload 5, 2) := by decide +kernel
theorem dX8_differences_101 : decode cX8_differences 101 = .ok (.dup2, 1) := by decide +kernel
theorem dX8_differences_102 : decode cX8_differences 102 = .ok (.laload, 1) := by decide +kernel
theorem dX8_differences_103 : decode cX8_differences 103 = .ok (.aload_n 3, 1) := by decide +kernel
theorem dX8_differences_104 : decode cX8_differences 104 = .ok (.iload 5, 2) := by decide +kernel
theorem dX8_differences_106 : decode cX8_differences 106 = .ok (.iconst 1, 1) := by decide +kernel
theorem dX8_differences_107 : decode cX8_differences 107 = .ok (.isub, 1) := by decide +kernel
theorem dX8_differences_108 : decode cX8_differences 108 = .ok (.laload, 1) := by decide +kernel
theorem dX8_differences_109 : decode cX8_differences 109 = .ok (.lsub, 1) := by decide +kernel
theorem dX8_differences_110 : decode cX8_differences 110 = .ok (.lastore, 1) := by decide +kernel
theorem dX8_differences_111 : decode cX8_differences 111 = .ok (.iinc 5 (-1), 3) := by decide +kernel
theorem dX8_differences_114 : decode cX8_differences 114 = .ok (.goto (-23), 3) := by decide +kernel
theorem dX8_differences_117 : decode cX8_differences 117 = .ok (.iinc 4 1, 3) := by decide +kernel
theorem dX8_differences_120 : decode cX8_differences 120 = .ok (.goto (-38), 3) := by decide +kernel
theorem dX8_differences_123 : decode cX8_differences 123 = .ok (.iconst 0, 1) := by decide +kernel
theorem dX8_differences_124 : decode cX8_differences 124 = .ok (.istore 4, 2) := by decide +kernel
theorem dX8_differences_126 : decode cX8_differences 126 = .ok (.iload 4, 2) := by decide +kernel
theorem dX8_differences_128 : decode cX8_differences 128 = .ok (.iload_n 2, 1) := by decide +kernel
theorem dX8_differences_129 : decode cX8_differences 129 = .ok (.if_icmp .gt 23, 3) := by decide +kernel
theorem dX8_differences_132 : decode cX8_differences 132 = .ok (.aload_n 3, 1) := by decide +kernel
theorem dX8_differences_133 : decode cX8_differences 133 = .ok (.iload 4, 2) := by decide +kernel
theorem dX8_differences_135 : decode cX8_differences 135 = .ok (.aload_n 3, 1) := by decide +kernel
theorem dX8_differences_136 : decode cX8_differences 136 = .ok (.iload 4, 2) := by decide +kernel
theorem dX8_differences_138 : decode cX8_differences 138 = .ok (.laload, 1) := by decide +kernel
theorem dX8_differences_139 : decode cX8_differences 139 = .ok (.ldc2_w 87, 3) := by decide +kernel
theorem dX8_differences_142 : decode cX8_differences 142 = .ok (.invokestatic 89, 3) := by decide +kernel
theorem dX8_differences_145 : decode cX8_differences 145 = .ok (.lastore, 1) := by decide +kernel
theorem dX8_differences_146 : decode cX8_differences 146 = .ok (.iinc 4 1, 3) := by decide +kernel
theorem dX8_differences_149 : decode cX8_differences 149 = .ok (.goto (-23), 3) := by decide +kernel
theorem dX8_differences_152 : decode cX8_differences 152 = .ok (.iconst 1, 1) := by decide +kernel
theorem dX8_differences_153 : decode cX8_differences 153 = .ok (.ireturn, 1) := by decide +kernel
theorem dX8_printCopies_0 : decode cX8_printCopies 0 = .ok (.aload_n 0, 1) := by decide +kernel
theorem dX8_printCopies_1 : decode cX8_printCopies 1 = .ok (.dup, 1) := by decide +kernel
theorem dX8_printCopies_2 : decode cX8_printCopies 2 = .ok (.getfield 93, 3) := by decide +kernel
theorem dX8_printCopies_5 : decode cX8_printCopies 5 = .ok (.iload_n 1, 1) := by decide +kernel
theorem dX8_printCopies_6 : decode cX8_printCopies 6 = .ok (.iadd, 1) := by decide +kernel
theorem dX8_printCopies_7 : decode cX8_printCopies 7 = .ok (.putfield 93, 3) := by decide +kernel
theorem dX8_printCopies_10 : decode cX8_printCopies 10 = .ok (.iload_n 1, 1) := by decide +kernel
theorem dX8_printCopies_11 : decode cX8_printCopies 11 = .ok (.istore_n 3, 1) := by decide +kernel
theorem dX8_printCopies_12 : decode cX8_printCopies 12 = .ok (.iconst 0, 1) := by decide +kernel
theorem dX8_printCopies_13 : decode cX8_printCopies 13 = .ok (.istore 4, 2) := by decide +kernel
theorem dX8_printCopies_15 : decode cX8_printCopies 15 = .ok (.iload 4, 2) := by decide +kernel
theorem dX8_printCopies_17 : decode cX8_printCopies 17 = .ok (.iload_n 1, 1) := by decide +kernel
theorem dX8_printCopies_18 : decode cX8_printCopies 18 = .ok (.if_icmp .gt 60, 3) := by decide +kernel
theorem dX8_printCopies_21 : decode cX8_printCopies 21 = .ok (.iload_n 3, 1) := by decide +kernel
theorem dX8_printCopies_22 : decode cX8_printCopies 22 = .ok (.ifCond .le 56, 3) := by decide +kernel
theorem dX8_printCopies_25 : decode cX8_printCopies 25 = .ok (.iconst 1, 1) := by decide +kernel
theorem dX8_printCopies_26 : decode cX8_printCopies 26 = .ok (.iload_n 2, 1) := by decide +kernel
theorem dX8_printCopies_27 : decode cX8_printCopies 27 = .ok (.aload_n 0, 1) := by decide +kernel
theorem dX8_printCopies_28 : decode cX8_printCopies 28 = .ok (.getfield 96, 3) := by decide +kernel
theorem dX8_printCopies_31 : decode cX8_printCopies 31 = .ok (.isub, 1) := by decide +kernel
theorem dX8_printCopies_32 : decode cX8_printCopies 32 = .ok (.invokestatic 15, 3) := by decide +kernel
theorem dX8_printCopies_35 : decode cX8_printCopies 35 = .ok (.istore 5, 2) := by decide +kernel
theorem dX8_printCopies_37 : decode cX8_printCopies 37 = .ok (.iload_n 3, 1) := by decide +kernel
theorem dX8_printCopies_38 : decode cX8_printCopies 38 = .ok (.iload 5, 2) := by decide +kernel
theorem dX8_printCopies_40 : decode cX8_printCopies 40 = .ok (.if_icmp .ge 18, 3) := by decide +kernel
theorem dX8_printCopies_43 : decode cX8_printCopies 43 = .ok (.aload_n 0, 1) := by decide +kernel
theorem dX8_printCopies_44 : decode cX8_printCopies 44 = .ok (.dup, 1) := by decide +kernel
theorem dX8_printCopies_45 : decode cX8_printCopies 45 = .ok (.getfield 96, 3) := by decide +kernel
theorem dX8_printCopies_48 : decode cX8_printCopies 48 = .ok (.iload_n 3, 1) := by decide +kernel
theorem dX8_printCopies_49 : decode cX8_printCopies 49 = .ok (.iadd, 1) := by decide +kernel
theorem dX8_printCopies_50 : decode cX8_printCopies 50 = .ok (.putfield 96, 3) := by decide +kernel
theorem dX8_printCopies_53 : decode cX8_printCopies 53 = .ok (.iconst 0, 1) := by decide +kernel
theorem dX8_printCopies_54 : decode cX8_printCopies 54 = .ok (.istore_n 3, 1) := by decide +kernel
theorem dX8_printCopies_55 : decode cX8_printCopies 55 = .ok (.goto 17, 3) := by decide +kernel
theorem dX8_printCopies_58 : decode cX8_printCopies 58 = .ok (.iload_n 3, 1) := by decide +kernel
theorem dX8_printCopies_59 : decode cX8_printCopies 59 = .ok (.iload 5, 2) := by decide +kernel
theorem dX8_printCopies_61 : decode cX8_printCopies 61 = .ok (.isub, 1) := by decide +kernel
theorem dX8_printCopies_62 : decode cX8_printCopies 62 = .ok (.istore_n 3, 1) := by decide +kernel
theorem dX8_printCopies_63 : decode cX8_printCopies 63 = .ok (.aload_n 0, 1) := by decide +kernel
theorem dX8_printCopies_64 : decode cX8_printCopies 64 = .ok (.iconst 0, 1) := by decide +kernel
theorem dX8_printCopies_65 : decode cX8_printCopies 65 = .ok (.putfield 96, 3) := by decide +kernel
theorem dX8_printCopies_68 : decode cX8_printCopies 68 = .ok (.aload_n 0, 1) := by decide +kernel
theorem dX8_printCopies_69 : decode cX8_printCopies 69 = .ok (.invokevirtual 99, 3) := by decide +kernel
theorem dX8_printCopies_72 : decode cX8_printCopies 72 = .ok (.iinc 4 1, 3) := by decide +kernel
theorem dX8_printCopies_75 : decode cX8_printCopies 75 = .ok (.goto (-60), 3) := by decide +kernel
theorem dX8_printCopies_78 : decode cX8_printCopies 78 = .ok (.return_, 1) := by decide +kernel
theorem dX8_wearAll_0 : decode cX8_wearAll 0 = .ok (.iconst 0, 1) := by decide +kernel
theorem dX8_wearAll_1 : decode cX8_wearAll 1 = .ok (.istore_n 1, 1) := by decide +kernel
theorem dX8_wearAll_2 : decode cX8_wearAll 2 = .ok (.iload_n 1, 1) := by decide +kernel
theorem dX8_wearAll_3 : decode cX8_wearAll 3 = .ok (.aload_n 0, 1) := by decide +kernel
theorem dX8_wearAll_4 : decode cX8_wearAll 4 = .ok (.getfield 54, 3) := by decide +kernel
theorem dX8_wearAll_7 : decode cX8_wearAll 7 = .ok (.arraylength, 1) := by decide +kernel
theorem dX8_wearAll_8 : decode cX8_wearAll 8 = .ok (.if_icmp .ge 19, 3) := by decide +kernel
theorem dX8_wearAll_11 : decode cX8_wearAll 11 = .ok (.aload_n 0, 1) := by decide +kernel
theorem dX8_wearAll_12 : decode cX8_wearAll 12 = .ok (.getfield 54, 3) := by decide +kernel
theorem dX8_wearAll_15 : decode cX8_wearAll 15 = .ok (.iload_n 1, 1) := by decide +kernel
theorem dX8_wearAll_16 : decode cX8_wearAll 16 = .ok (.dup2, 1) := by decide +kernel
theorem dX8_wearAll_17 : decode cX8_wearAll 17 = .ok (.iaload, 1) := by decide +kernel
theorem dX8_wearAll_18 : decode cX8_wearAll 18 = .ok (.iconst 1, 1) := by decide +kernel
theorem dX8_wearAll_19 : decode cX8_wearAll 19 = .ok (.iadd, 1) := by decide +kernel
theorem dX8_wearAll_20 : decode cX8_wearAll 20 = .ok (.iastore, 1) := by decide +kernel
theorem dX8_wearAll_21 : decode cX8_wearAll 21 = .ok (.iinc 1 1, 3) := by decide +kernel
theorem dX8_wearAll_24 : decode cX8_wearAll 24 = .ok (.goto (-22), 3) := by decide +kernel
theorem dX8_wearAll_27 : decode cX8_wearAll 27 = .ok (.return_, 1) := by decide +kernel
theorem dX8_readable_0 : decode cX8_readable 0 = .ok (.aload_n 0, 1) := by decide +kernel
theorem dX8_readable_1 : decode cX8_readable 1 = .ok (.iload_n 1, 1) := by decide +kernel
theorem dX8_readable_2 : decode cX8_readable 2 = .ok (.invokevirtual 70, 3) := by decide +kernel
theorem dX8_readable_5 : decode cX8_readable 5 = .ok (.ifCond .ne 6, 3) := by decide +kernel
theorem dX8_readable_8 : decode cX8_readable 8 = .ok (.ldc 24, 2) := by decide +kernel
theorem dX8_readable_10 : decode cX8_readable 10 = .ok (.ireturn, 1) := by decide +kernel
theorem dX8_readable_11 : decode cX8_readable 11 = .ok (.aload_n 0, 1) := by decide +kernel
theorem dX8_readable_12 : decode cX8_readable 12 = .ok (.getfield 39, 3) := by decide +kernel
theorem dX8_readable_15 : decode cX8_readable 15 = .ok (.iload_n 1, 1) := by decide +kernel
theorem dX8_readable_16 : decode cX8_readable 16 = .ok (.iaload, 1) := by decide +kernel
theorem dX8_readable_17 : decode cX8_readable 17 = .ok (.invokestatic 102, 3) := by decide +kernel
theorem dX8_readable_20 : decode cX8_readable 20 = .ok (.istore_n 2, 1) := by decide +kernel
theorem dX8_readable_21 : decode cX8_readable 21 = .ok (.iconst 0, 1) := by decide +kernel
theorem dX8_readable_22 : decode cX8_readable 22 = .ok (.istore_n 3, 1) := by decide +kernel
theorem dX8_readable_23 : decode cX8_readable 23 = .ok (.iconst 0, 1) := by decide +kernel
theorem dX8_readable_24 : decode cX8_readable 24 = .ok (.istore 4, 2) := by decide +kernel
theorem dX8_readable_26 : decode cX8_readable 26 = .ok (.iload 4, 2) := by decide +kernel
theorem dX8_readable_28 : decode cX8_readable 28 = .ok (.bipush 9, 2) := by decide +kernel
theorem dX8_readable_30 : decode cX8_readable 30 = .ok (.if_icmp .ge 36, 3) := by decide +kernel
theorem dX8_readable_33 : decode cX8_readable 33 = .ok (.iload_n 3, 1) := by decide +kernel
theorem dX8_readable_34 : decode cX8_readable 34 = .ok (.iload_n 2, 1) := by decide +kernel
theorem dX8_readable_35 : decode cX8_readable 35 = .ok (.bipush 10, 2) := by decide +kernel
theorem dX8_readable_37 : decode cX8_readable 37 = .ok (.irem, 1) := by decide +kernel
theorem dX8_readable_38 : decode cX8_readable 38 = .ok (.aload_n 0, 1) := by decide +kernel
theorem dX8_readable_39 : decode cX8_readable 39 = .ok (.getfield 54, 3) := by decide +kernel
theorem dX8_readable_42 : decode cX8_readable 42 = .ok (.iload_n 1, 1) := by decide +kernel
theorem dX8_readable_43 : decode cX8_readable 43 = .ok (.iaload, 1) := by decide +kernel
theorem dX8_readable_44 : decode cX8_readable 44 = .ok (.invokestatic 105, 3) := by decide +kernel
theorem dX8_readable_47 : decode cX8_readable 47 = .ok (.iload 4, 2) := by decide +kernel
theorem dX8_readable_49 : decode cX8_readable 49 = .ok (.invokestatic 108, 3) := by decide +kernel
theorem dX8_readable_52 : decode cX8_readable 52 = .ok (.imul, 1) := by decide +kernel
theorem dX8_readable_53 : decode cX8_readable 53 = .ok (.iadd, 1) := by decide +kernel
theorem dX8_readable_54 : decode cX8_readable 54 = .ok (.istore_n 3, 1) := by decide +kernel
theorem dX8_readable_55 : decode cX8_readable 55 = .ok (.iload_n 2, 1) := by decide +kernel
theorem dX8_readable_56 : decode cX8_readable 56 = .ok (.bipush 10, 2) := by decide +kernel
theorem dX8_readable_58 : decode cX8_readable 58 = .ok (.idiv, 1) := by decide +kernel
theorem dX8_readable_59 : decode cX8_readable 59 = .ok (.istore_n 2, 1) := by decide +kernel
theorem dX8_readable_60 : decode cX8_readable 60 = .ok (.iinc 4 1, 3) := by decide +kernel
theorem dX8_readable_63 : decode cX8_readable 63 = .ok (.goto (-37), 3) := by decide +kernel
theorem dX8_readable_66 : decode cX8_readable 66 = .ok (.aload_n 0, 1) := by decide +kernel
theorem dX8_readable_67 : decode cX8_readable 67 = .ok (.getfield 39, 3) := by decide +kernel
theorem dX8_readable_70 : decode cX8_readable 70 = .ok (.iload_n 1, 1) := by decide +kernel
theorem dX8_readable_71 : decode cX8_readable 71 = .ok (.iaload, 1) := by decide +kernel
theorem dX8_readable_72 : decode cX8_readable 72 = .ok (.ifCond .ge 8, 3) := by decide +kernel
theorem dX8_readable_75 : decode cX8_readable 75 = .ok (.iload_n 3, 1) := by decide +kernel
theorem dX8_readable_76 : decode cX8_readable 76 = .ok (.ineg, 1) := by decide +kernel
theorem dX8_readable_77 : decode cX8_readable 77 = .ok (.goto 4, 3) := by decide +kernel
theorem dX8_readable_80 : decode cX8_readable 80 = .ok (.iload_n 3, 1) := by decide +kernel
theorem dX8_readable_81 : decode cX8_readable 81 = .ok (.ireturn, 1) := by decide +kernel
theorem dX8_readDigit_0 : decode cX8_readDigit 0 = .ok (.iload_n 0, 1) := by decide +kernel
theorem dX8_readDigit_1 : decode cX8_readDigit 1 = .ok (.tableswitch 97 1 8 #[72, 97, 47, 97, 97, 84, 97, 59], 47) := by decide +kernel
theorem dX8_readDigit_48 : decode cX8_readDigit 48 = .ok (.iload_n 1, 1) := by decide +kernel
theorem dX8_readDigit_49 : decode cX8_readDigit 49 = .ok (.iconst 4, 1) := by decide +kernel
theorem dX8_readDigit_50 : decode cX8_readDigit 50 = .ok (.if_icmp .lt 8, 3) := by decide +kernel
theorem dX8_readDigit_53 : decode cX8_readDigit 53 = .ok (.bipush 8, 2) := by decide +kernel
theorem dX8_readDigit_55 : decode cX8_readDigit 55 = .ok (.goto 4, 3) := by decide +kernel
theorem dX8_readDigit_58 : decode cX8_readDigit 58 = .ok (.iconst 3, 1) := by decide +kernel
theorem dX8_readDigit_59 : decode cX8_readDigit 59 = .ok (.ireturn, 1) := by decide +kernel
theorem dX8_readDigit_60 : decode cX8_readDigit 60 = .ok (.iload_n 1, 1) := by decide +kernel
theorem dX8_readDigit_61 : decode cX8_readDigit 61 = .ok (.bipush 7, 2) := by decide +kernel
theorem dX8_readDigit_63 : decode cX8_readDigit 63 = .ok (.if_icmp .lt 7, 3) := by decide +kernel
theorem dX8_readDigit_66 : decode cX8_readDigit 66 = .ok (.iconst 3, 1) := by decide +kernel
theorem dX8_readDigit_67 : decode cX8_readDigit 67 = .ok (.goto 5, 3) := by decide +kernel
theorem dX8_readDigit_70 : decode cX8_readDigit 70 = .ok (.bipush 8, 2) := by decide +kernel
theorem dX8_readDigit_72 : decode cX8_readDigit 72 = .ok (.ireturn, 1) := by decide +kernel
theorem dX8_readDigit_73 : decode cX8_readDigit 73 = .ok (.iload_n 1, 1) := by decide +kernel
theorem dX8_readDigit_74 : decode cX8_readDigit 74 = .ok (.iconst 5, 1) := by decide +kernel
theorem dX8_readDigit_75 : decode cX8_readDigit 75 = .ok (.if_icmp .lt 8, 3) := by decide +kernel
theorem dX8_readDigit_78 : decode cX8_readDigit 78 = .ok (.bipush 7, 2) := by decide +kernel
theorem dX8_readDigit_80 : decode cX8_readDigit 80 = .ok (.goto 4, 3) := by decide +kernel
theorem dX8_readDigit_83 : decode cX8_readDigit 83 = .ok (.iconst 1, 1) := by decide +kernel
theorem dX8_readDigit_84 : decode cX8_readDigit 84 = .ok (.ireturn, 1) := by decide +kernel
theorem dX8_readDigit_85 : decode cX8_readDigit 85 = .ok (.iload_n 1, 1) := by decide +kernel
theorem dX8_readDigit_86 : decode cX8_readDigit 86 = .ok (.bipush 6, 2) := by decide +kernel
theorem dX8_readDigit_88 : decode cX8_readDigit 88 = .ok (.if_icmp .lt 7, 3) := by decide +kernel
theorem dX8_readDigit_91 : decode cX8_readDigit 91 = .ok (.iconst 5, 1) := by decide +kernel
theorem dX8_readDigit_92 : decode cX8_readDigit 92 = .ok (.goto 5, 3) := by decide +kernel
theorem dX8_readDigit_95 : decode cX8_readDigit 95 = .ok (.bipush 6, 2) := by decide +kernel
theorem dX8_readDigit_97 : decode cX8_readDigit 97 = .ok (.ireturn, 1) := by decide +kernel
theorem dX8_readDigit_98 : decode cX8_readDigit 98 = .ok (.iload_n 0, 1) := by decide +kernel
theorem dX8_readDigit_99 : decode cX8_readDigit 99 = .ok (.ireturn, 1) := by decide +kernel
theorem dX8_sharedFalse_0 : decode cX8_sharedFalse 0 = .ok (.iconst 0, 1) := by decide +kernel
theorem dX8_sharedFalse_1 : decode cX8_sharedFalse 1 = .ok (.istore_n 1, 1) := by decide +kernel
theorem dX8_sharedFalse_2 : decode cX8_sharedFalse 2 = .ok (.iconst 0, 1) := by decide +kernel
theorem dX8_sharedFalse_3 : decode cX8_sharedFalse 3 = .ok (.istore_n 2, 1) := by decide +kernel
theorem dX8_sharedFalse_4 : decode cX8_sharedFalse 4 = .ok (.iload_n 2, 1) := by decide +kernel
theorem dX8_sharedFalse_5 : decode cX8_sharedFalse 5 = .ok (.aload_n 0, 1) := by decide +kernel
theorem dX8_sharedFalse_6 : decode cX8_sharedFalse 6 = .ok (.getfield 18, 3) := by decide +kernel
theorem dX8_sharedFalse_9 : decode cX8_sharedFalse 9 = .ok (.if_icmp .ge 35, 3) := by decide +kernel
theorem dX8_sharedFalse_12 : decode cX8_sharedFalse 12 = .ok (.aload_n 0, 1) := by decide +kernel
theorem dX8_sharedFalse_13 : decode cX8_sharedFalse 13 = .ok (.iload_n 2, 1) := by decide +kernel
theorem dX8_sharedFalse_14 : decode cX8_sharedFalse 14 = .ok (.invokevirtual 73, 3) := by decide +kernel
theorem dX8_sharedFalse_17 : decode cX8_sharedFalse 17 = .ok (.ifCond .eq 21, 3) := by decide +kernel
theorem dX8_sharedFalse_20 : decode cX8_sharedFalse 20 = .ok (.aload_n 0, 1) := by decide +kernel
theorem dX8_sharedFalse_21 : decode cX8_sharedFalse 21 = .ok (.getfield 57, 3) := by decide +kernel
theorem dX8_sharedFalse_24 : decode cX8_sharedFalse 24 = .ok (.iload_n 2, 1) := by decide +kernel
theorem dX8_sharedFalse_25 : decode cX8_sharedFalse 25 = .ok (.iaload, 1) := by decide +kernel
theorem dX8_sharedFalse_26 : decode cX8_sharedFalse 26 = .ok (.aload_n 0, 1) := by decide +kernel
theorem dX8_sharedFalse_27 : decode cX8_sharedFalse 27 = .ok (.getfield 39, 3) := by decide +kernel
theorem dX8_sharedFalse_30 : decode cX8_sharedFalse 30 = .ok (.iload_n 2, 1) := by decide +kernel
theorem dX8_sharedFalse_31 : decode cX8_sharedFalse 31 = .ok (.iaload, 1) := by decide +kernel
theorem dX8_sharedFalse_32 : decode cX8_sharedFalse 32 = .ok (.if_icmp .ne 6, 3) := by decide +kernel
theorem dX8_sharedFalse_35 : decode cX8_sharedFalse 35 = .ok (.iinc 1 1, 3) := by decide +kernel
theorem dX8_sharedFalse_38 : decode cX8_sharedFalse 38 = .ok (.iinc 2 1, 3) := by decide +kernel
theorem dX8_sharedFalse_41 : decode cX8_sharedFalse 41 = .ok (.goto (-37), 3) := by decide +kernel
theorem dX8_sharedFalse_44 : decode cX8_sharedFalse 44 = .ok (.iload_n 1, 1) := by decide +kernel
theorem dX8_sharedFalse_45 : decode cX8_sharedFalse 45 = .ok (.ireturn, 1) := by decide +kernel
theorem dX8_isCopied_0 : decode cX8_isCopied 0 = .ok (.iconst 0, 1) := by decide +kernel
theorem dX8_isCopied_1 : decode cX8_isCopied 1 = .ok (.istore_n 1, 1) := by decide +kernel
theorem dX8_isCopied_2 : decode cX8_isCopied 2 = .ok (.iconst 0, 1) := by decide +kernel
theorem dX8_isCopied_3 : decode cX8_isCopied 3 = .ok (.istore_n 2, 1) := by decide +kernel
theorem dX8_isCopied_4 : decode cX8_isCopied 4 = .ok (.iconst 0, 1) := by decide +kernel
theorem dX8_isCopied_5 : decode cX8_isCopied 5 = .ok (.istore_n 3, 1) := by decide +kernel
theorem dX8_isCopied_6 : decode cX8_isCopied 6 = .ok (.iconst 0, 1) := by decide +kernel
theorem dX8_isCopied_7 : decode cX8_isCopied 7 = .ok (.istore 4, 2) := by decide +kernel
theorem dX8_isCopied_9 : decode cX8_isCopied 9 = .ok (.iload 4, 2) := by decide +kernel
theorem dX8_isCopied_11 : decode cX8_isCopied 11 = .ok (.aload_n 0, 1) := by decide +kernel
theorem dX8_isCopied_12 : decode cX8_isCopied 12 = .ok (.getfield 18, 3) := by decide +kernel
theorem dX8_isCopied_15 : decode cX8_isCopied 15 = .ok (.if_icmp .ge 66, 3) := by decide +kernel
theorem dX8_isCopied_18 : decode cX8_isCopied 18 = .ok (.aload_n 0, 1) := by decide +kernel
theorem dX8_isCopied_19 : decode cX8_isCopied 19 = .ok (.getfield 57, 3) := by decide +kernel
theorem dX8_isCopied_22 : decode cX8_isCopied 22 = .ok (.iload 4, 2) := by decide +kernel
theorem dX8_isCopied_24 : decode cX8_isCopied 24 = .ok (.iaload, 1) := by decide +kernel
theorem dX8_isCopied_25 : decode cX8_isCopied 25 = .ok (.ldc 24, 2) := by decide +kernel
theorem dX8_isCopied_27 : decode cX8_isCopied 27 = .ok (.if_icmp .eq 48, 3) := by decide +kernel
theorem dX8_isCopied_30 : decode cX8_isCopied 30 = .ok (.iinc 1 1, 3) := by decide +kernel
theorem dX8_isCopied_33 : decode cX8_isCopied 33 = .ok (.iload_n 2, 1) := by decide +kernel
theorem dX8_isCopied_34 : decode cX8_isCopied 34 = .ok (.aload_n 0, 1) := by decide +kernel
theorem dX8_isCopied_35 : decode cX8_isCopied 35 = .ok (.getfield 57, 3) := by decide +kernel
theorem dX8_isCopied_38 : decode cX8_isCopied 38 = .ok (.iload 4, 2) := by decide +kernel
theorem dX8_isCopied_40 : decode cX8_isCopied 40 = .ok (.iaload, 1) := by decide +kernel
theorem dX8_isCopied_41 : decode cX8_isCopied 41 = .ok (.aload_n 0, 1) := by decide +kernel
theorem dX8_isCopied_42 : decode cX8_isCopied 42 = .ok (.getfield 29, 3) := by decide +kernel
theorem dX8_isCopied_45 : decode cX8_isCopied 45 = .ok (.iload 4, 2) := by decide +kernel
theorem dX8_isCopied_47 : decode cX8_isCopied 47 = .ok (.iaload, 1) := by decide +kernel
theorem dX8_isCopied_48 : decode cX8_isCopied 48 = .ok (.if_icmp .eq 7, 3) := by decide +kernel
theorem dX8_isCopied_51 : decode cX8_isCopied 51 = .ok (.iconst 1, 1) := by decide +kernel
theorem dX8_isCopied_52 : decode cX8_isCopied 52 = .ok (.goto 4, 3) := by decide +kernel
theorem dX8_isCopied_55 : decode cX8_isCopied 55 = .ok (.iconst 0, 1) := by decide +kernel
theorem dX8_isCopied_56 : decode cX8_isCopied 56 = .ok (.iadd, 1) := by decide +kernel
theorem dX8_isCopied_57 : decode cX8_isCopied 57 = .ok (.istore_n 2, 1) := by decide +kernel
theorem dX8_isCopied_58 : decode cX8_isCopied 58 = .ok (.iload_n 3, 1) := by decide +kernel
theorem dX8_isCopied_59 : decode cX8_isCopied 59 = .ok (.aload_n 0, 1) := by decide +kernel
theorem dX8_isCopied_60 : decode cX8_isCopied 60 = .ok (.iload 4, 2) := by decide +kernel
theorem dX8_isCopied_62 : decode cX8_isCopied 62 = .ok (.invokevirtual 73, 3) := by decide +kernel
theorem dX8_isCopied_65 : decode cX8_isCopied 65 = .ok (.ifCond .eq 7, 3) := by decide +kernel
theorem dX8_isCopied_68 : decode cX8_isCopied 68 = .ok (.iconst 1, 1) := by decide +kernel
theorem dX8_isCopied_69 : decode cX8_isCopied 69 = .ok (.goto 4, 3) := by decide +kernel
theorem dX8_isCopied_72 : decode cX8_isCopied 72 = .ok (.iconst 0, 1) := by decide +kernel
theorem dX8_isCopied_73 : decode cX8_isCopied 73 = .ok (.iadd, 1) := by decide +kernel
theorem dX8_isCopied_74 : decode cX8_isCopied 74 = .ok (.istore_n 3, 1) := by decide +kernel
theorem dX8_isCopied_75 : decode cX8_isCopied 75 = .ok (.iinc 4 1, 3) := by decide +kernel
theorem dX8_isCopied_78 : decode cX8_isCopied 78 = .ok (.goto (-69), 3) := by decide +kernel
theorem dX8_isCopied_81 : decode cX8_isCopied 81 = .ok (.lconst 0, 1) := by decide +kernel
theorem dX8_isCopied_82 : decode cX8_isCopied 82 = .ok (.lstore 4, 2) := by decide +kernel
theorem dX8_isCopied_84 : decode cX8_isCopied 84 = .ok (.aload_n 0, 1) := by decide +kernel
theorem dX8_isCopied_85 : decode cX8_isCopied 85 = .ok (.invokevirtual 111, 3) := by decide +kernel
theorem dX8_isCopied_88 : decode cX8_isCopied 88 = .ok (.istore 6, 2) := by decide +kernel
theorem dX8_isCopied_90 : decode cX8_isCopied 90 = .ok (.iload 6, 2) := by decide +kernel
theorem dX8_isCopied_92 : decode cX8_isCopied 92 = .ok (.iload_n 2, 1) := by decide +kernel
theorem dX8_isCopied_93 : decode cX8_isCopied 93 = .ok (.if_icmp .gt 31, 3) := by decide +kernel
theorem dX8_isCopied_96 : decode cX8_isCopied 96 = .ok (.lload 4, 2) := by decide +kernel
theorem dX8_isCopied_98 : decode cX8_isCopied 98 = .ok (.iload_n 3, 1) := by decide +kernel
theorem dX8_isCopied_99 : decode cX8_isCopied 99 = .ok (.iload 6, 2) := by decide +kernel
theorem dX8_isCopied_101 : decode cX8_isCopied 101 = .ok (.invokestatic 115, 3) := by decide +kernel
theorem dX8_isCopied_104 : decode cX8_isCopied 104 = .ok (.iload_n 1, 1) := by decide +kernel
theorem dX8_isCopied_105 : decode cX8_isCopied 105 = .ok (.iload_n 3, 1) := by decide +kernel
theorem dX8_isCopied_106 : decode cX8_isCopied 106 = .ok (.isub, 1) := by decide +kernel
theorem dX8_isCopied_107 : decode cX8_isCopied 107 = .ok (.iload_n 2, 1) := by decide +kernel
theorem dX8_isCopied_108 : decode cX8_isCopied 108 = .ok (.iload 6, 2) := by decide +kernel
theorem dX8_isCopied_110 : decode cX8_isCopied 110 = .ok (.isub, 1) := by decide +kernel
theorem dX8_isCopied_111 : decode cX8_isCopied 111 = .ok (.invokestatic 115, 3) := by decide +kernel
theorem dX8_isCopied_114 : decode cX8_isCopied 114 = .ok (.lmul, 1) := by decide +kernel
theorem dX8_isCopied_115 : decode cX8_isCopied 115 = .ok (.ladd, 1) := by decide +kernel
theorem dX8_isCopied_116 : decode cX8_isCopied 116 = .ok (.lstore 4, 2) := by decide +kernel
theorem dX8_isCopied_118 : decode cX8_isCopied 118 = .ok (.iinc 6 1, 3) := by decide +kernel
theorem dX8_isCopied_121 : decode cX8_isCopied 121 = .ok (.goto (-31), 3) := by decide +kernel
theorem dX8_isCopied_124 : decode cX8_isCopied 124 = .ok (.lload 4, 2) := by decide +kernel
theorem dX8_isCopied_126 : decode cX8_isCopied 126 = .ok (.ldc2_w 119, 3) := by decide +kernel
theorem dX8_isCopied_129 : decode cX8_isCopied 129 = .ok (.lmul, 1) := by decide +kernel
theorem dX8_isCopied_130 : decode cX8_isCopied 130 = .ok (.iload_n 1, 1) := by decide +kernel
theorem dX8_isCopied_131 : decode cX8_isCopied 131 = .ok (.iload_n 2, 1) := by decide +kernel
theorem dX8_isCopied_132 : decode cX8_isCopied 132 = .ok (.invokestatic 115, 3) := by decide +kernel
theorem dX8_isCopied_135 : decode cX8_isCopied 135 = .ok (.lcmp, 1) := by decide +kernel
theorem dX8_isCopied_136 : decode cX8_isCopied 136 = .ok (.ifCond .ge 7, 3) := by decide +kernel
theorem dX8_isCopied_139 : decode cX8_isCopied 139 = .ok (.iconst 1, 1) := by decide +kernel
theorem dX8_isCopied_140 : decode cX8_isCopied 140 = .ok (.goto 4, 3) := by decide +kernel
theorem dX8_isCopied_143 : decode cX8_isCopied 143 = .ok (.iconst 0, 1) := by decide +kernel
theorem dX8_isCopied_144 : decode cX8_isCopied 144 = .ok (.ireturn, 1) := by decide +kernel
theorem dX8_heapsOf_0 : decode cX8_heapsOf 0 = .ok (.iload_n 1, 1) := by decide +kernel
theorem dX8_heapsOf_1 : decode cX8_heapsOf 1 = .ok (.ifCond .lt 8, 3) := by decide +kernel
theorem dX8_heapsOf_4 : decode cX8_heapsOf 4 = .ok (.iload_n 1, 1) := by decide +kernel
theorem dX8_heapsOf_5 : decode cX8_heapsOf 5 = .ok (.iload_n 0, 1) := by decide +kernel
theorem dX8_heapsOf_6 : decode cX8_heapsOf 6 = .ok (.if_icmp .le 5, 3) := by decide +kernel
theorem dX8_heapsOf_9 : decode cX8_heapsOf 9 = .ok (.lconst 0, 1) := by decide +kernel
theorem dX8_heapsOf_10 : decode cX8_heapsOf 10 = .ok (.lreturn, 1) := by decide +kernel
theorem dX8_heapsOf_11 : decode cX8_heapsOf 11 = .ok (.lconst 1, 1) := by decide +kernel
theorem dX8_heapsOf_12 : decode cX8_heapsOf 12 = .ok (.lstore_n 2, 1) := by decide +kernel
theorem dX8_heapsOf_13 : decode cX8_heapsOf 13 = .ok (.iconst 1, 1) := by decide +kernel
theorem dX8_heapsOf_14 : decode cX8_heapsOf 14 = .ok (.istore 4, 2) := by decide +kernel
theorem dX8_heapsOf_16 : decode cX8_heapsOf 16 = .ok (.iload 4, 2) := by decide +kernel
theorem dX8_heapsOf_18 : decode cX8_heapsOf 18 = .ok (.iload_n 1, 1) := by decide +kernel
theorem dX8_heapsOf_19 : decode cX8_heapsOf 19 = .ok (.if_icmp .gt 23, 3) := by decide +kernel
theorem dX8_heapsOf_22 : decode cX8_heapsOf 22 = .ok (.lload_n 2, 1) := by decide +kernel
theorem dX8_heapsOf_23 : decode cX8_heapsOf 23 = .ok (.iload_n 0, 1) := by decide +kernel
theorem dX8_heapsOf_24 : decode cX8_heapsOf 24 = .ok (.iload_n 1, 1) := by decide +kernel
theorem dX8_heapsOf_25 : decode cX8_heapsOf 25 = .ok (.isub, 1) := by decide +kernel
theorem dX8_heapsOf_26 : decode cX8_heapsOf 26 = .ok (.iload 4, 2) := by decide +kernel
theorem dX8_heapsOf_28 : decode cX8_heapsOf 28 = .ok (.iadd, 1) := by decide +kernel
theorem dX8_heapsOf_29 : decode cX8_heapsOf 29 = .ok (.i2l, 1) := by decide +kernel
theorem dX8_heapsOf_30 : decode cX8_heapsOf 30 = .ok (.lmul, 1) := by decide +kernel
theorem dX8_heapsOf_31 : decode cX8_heapsOf 31 = .ok (.iload 4, 2) := by decide +kernel
theorem dX8_heapsOf_33 : decode cX8_heapsOf 33 = .ok (.i2l, 1) := by decide +kernel
theorem dX8_heapsOf_34 : decode cX8_heapsOf 34 = .ok (.ldiv, 1) := by decide +kernel
theorem dX8_heapsOf_35 : decode cX8_heapsOf 35 = .ok (.lstore_n 2, 1) := by decide +kernel
theorem dX8_heapsOf_36 : decode cX8_heapsOf 36 = .ok (.iinc 4 1, 3) := by decide +kernel
theorem dX8_heapsOf_39 : decode cX8_heapsOf 39 = .ok (.goto (-23), 3) := by decide +kernel
theorem dX8_heapsOf_42 : decode cX8_heapsOf 42 = .ok (.lload_n 2, 1) := by decide +kernel
theorem dX8_heapsOf_43 : decode cX8_heapsOf 43 = .ok (.lreturn, 1) := by decide +kernel
theorem dX9_init_0 : decode cX9_init 0 = .ok (.aload_n 0, 1) := by decide +kernel
theorem dX9_init_1 : decode cX9_init 1 = .ok (.invokespecial 3, 3) := by decide +kernel
theorem dX9_init_4 : decode cX9_init 4 = .ok (.aload_n 0, 1) := by decide +kernel
theorem dX9_init_5 : decode cX9_init 5 = .ok (.sipush 200, 3) := by decide +kernel
theorem dX9_init_8 : decode cX9_init 8 = .ok (.newarray .int, 2) := by decide +kernel
theorem dX9_init_10 : decode cX9_init 10 = .ok (.putfield 9, 3) := by decide +kernel
theorem dX9_init_13 : decode cX9_init 13 = .ok (.return_, 1) := by decide +kernel
theorem dX9_append_0 : decode cX9_append 0 = .ok (.bipush 24, 2) := by decide +kernel
theorem dX9_append_2 : decode cX9_append 2 = .ok (.istore_n 2, 1) := by decide +kernel
theorem dX9_append_3 : decode cX9_append 3 = .ok (.iload_n 2, 1) := by decide +kernel
theorem dX9_append_4 : decode cX9_append 4 = .ok (.ifCond .lt 47, 3) := by decide +kernel
theorem dX9_append_7 : decode cX9_append 7 = .ok (.aload_n 0, 1) := by decide +kernel
theorem dX9_append_8 : decode cX9_append 8 = .ok (.getfield 15, 3) := by decide +kernel
theorem dX9_append_11 : decode cX9_append 11 = .ok (.aload_n 0, 1) := by decide +kernel
theorem dX9_append_12 : decode cX9_append 12 = .ok (.getfield 9, 3) := by decide +kernel
theorem dX9_append_15 : decode cX9_append 15 = .ok (.arraylength, 1) := by decide +kernel
theorem dX9_append_16 : decode cX9_append 16 = .ok (.if_icmp .ge 29, 3) := by decide +kernel
theorem dX9_append_19 : decode cX9_append 19 = .ok (.aload_n 0, 1) := by decide +kernel
theorem dX9_append_20 : decode cX9_append 20 = .ok (.getfield 9, 3) := by decide +kernel
theorem dX9_append_23 : decode cX9_append 23 = .ok (.aload_n 0, 1) := by decide +kernel
theorem dX9_append_24 : decode cX9_append 24 = .ok (.getfield 15, 3) := by decide +kernel
theorem dX9_append_27 : decode cX9_append 27 = .ok (.iload_n 1, 1) := by decide +kernel
theorem dX9_append_28 : decode cX9_append 28 = .ok (.iload_n 2, 1) := by decide +kernel
theorem dX9_append_29 : decode cX9_append 29 = .ok (.iushr, 1) := by decide +kernel
theorem dX9_append_30 : decode cX9_append 30 = .ok (.sipush 255, 3) := by decide +kernel
theorem dX9_append_33 : decode cX9_append 33 = .ok (.iand, 1) := by decide +kernel
theorem dX9_append_34 : decode cX9_append 34 = .ok (.iastore, 1) := by decide +kernel
theorem dX9_append_35 : decode cX9_append 35 = .ok (.aload_n 0, 1) := by decide +kernel
theorem dX9_append_36 : decode cX9_append 36 = .ok (.dup, 1) := by decide +kernel
theorem dX9_append_37 : decode cX9_append 37 = .ok (.getfield 15, 3) := by decide +kernel
theorem dX9_append_40 : decode cX9_append 40 = .ok (.iconst 1, 1) := by decide +kernel
theorem dX9_append_41 : decode cX9_append 41 = .ok (.iadd, 1) := by decide +kernel
theorem dX9_append_42 : decode cX9_append 42 = .ok (.putfield 15, 3) := by decide +kernel
theorem dX9_append_45 : decode cX9_append 45 = .ok (.iinc 2 (-8), 3) := by decide +kernel
theorem dX9_append_48 : decode cX9_append 48 = .ok (.goto (-45), 3) := by decide +kernel
theorem dX9_append_51 : decode cX9_append 51 = .ok (.return_, 1) := by decide +kernel
theorem dX9_at_0 : decode cX9_at 0 = .ok (.iload_n 1, 1) := by decide +kernel
theorem dX9_at_1 : decode cX9_at 1 = .ok (.ifCond .lt 20, 3) := by decide +kernel
theorem dX9_at_4 : decode cX9_at 4 = .ok (.iload_n 1, 1) := by decide +kernel
theorem dX9_at_5 : decode cX9_at 5 = .ok (.aload_n 0, 1) := by decide +kernel
theorem dX9_at_6 : decode cX9_at 6 = .ok (.getfield 15, 3) := by decide +kernel
theorem dX9_at_9 : decode cX9_at 9 = .ok (.if_icmp .ge 12, 3) := by decide +kernel
theorem dX9_at_12 : decode cX9_at 12 = .ok (.iload_n 1, 1) := by decide +kernel
theorem dX9_at_13 : decode cX9_at 13 = .ok (.aload_n 0, 1) := by decide +kernel
theorem dX9_at_14 : decode cX9_at 14 = .ok (.getfield 9, 3) := by decide +kernel
theorem dX9_at_17 : decode cX9_at 17 = .ok (.arraylength, 1) := by decide +kernel
theorem dX9_at_18 : decode cX9_at 18 = .ok (.if_icmp .lt 7, 3) := by decide +kernel
theorem dX9_at_21 : decode cX9_at 21 = .ok (.iconst (-1), 1) := by decide +kernel
theorem dX9_at_22 : decode cX9_at 22 = .ok (.goto 9, 3) := by decide +kernel
theorem dX9_at_25 : decode cX9_at 25 = .ok (.aload_n 0, 1) := by decide +kernel
theorem dX9_at_26 : decode cX9_at 26 = .ok (.getfield 9, 3) := by decide +kernel
theorem dX9_at_29 : decode cX9_at 29 = .ok (.iload_n 1, 1) := by decide +kernel
theorem dX9_at_30 : decode cX9_at 30 = .ok (.iaload, 1) := by decide +kernel
theorem dX9_at_31 : decode cX9_at 31 = .ok (.ireturn, 1) := by decide +kernel
theorem dX10_init_0 : decode cX10_init 0 = .ok (.aload_n 0, 1) := by decide +kernel
theorem dX10_init_1 : decode cX10_init 1 = .ok (.invokespecial 1, 3) := by decide +kernel
theorem dX10_init_4 : decode cX10_init 4 = .ok (.aload_n 0, 1) := by decide +kernel
theorem dX10_init_5 : decode cX10_init 5 = .ok (.new 7, 3) := by decide +kernel
theorem dX10_init_8 : decode cX10_init 8 = .ok (.dup, 1) := by decide +kernel
theorem dX10_init_9 : decode cX10_init 9 = .ok (.invokespecial 9, 3) := by decide +kernel
theorem dX10_init_12 : decode cX10_init 12 = .ok (.putfield 10, 3) := by decide +kernel
theorem dX10_init_15 : decode cX10_init 15 = .ok (.aload_n 0, 1) := by decide +kernel
theorem dX10_init_16 : decode cX10_init 16 = .ok (.new 16, 3) := by decide +kernel
theorem dX10_init_19 : decode cX10_init 19 = .ok (.dup, 1) := by decide +kernel
theorem dX10_init_20 : decode cX10_init 20 = .ok (.aload_n 0, 1) := by decide +kernel
theorem dX10_init_21 : decode cX10_init 21 = .ok (.getfield 10, 3) := by decide +kernel
theorem dX10_init_24 : decode cX10_init 24 = .ok (.invokespecial 18, 3) := by decide +kernel
theorem dX10_init_27 : decode cX10_init 27 = .ok (.putfield 21, 3) := by decide +kernel
theorem dX10_init_30 : decode cX10_init 30 = .ok (.aload_n 0, 1) := by decide +kernel
theorem dX10_init_31 : decode cX10_init 31 = .ok (.new 25, 3) := by decide +kernel
theorem dX10_init_34 : decode cX10_init 34 = .ok (.dup, 1) := by decide +kernel
theorem dX10_init_35 : decode cX10_init 35 = .ok (.invokespecial 27, 3) := by decide +kernel
theorem dX10_init_38 : decode cX10_init 38 = .ok (.putfield 28, 3) := by decide +kernel
theorem dX10_init_41 : decode cX10_init 41 = .ok (.aload_n 0, 1) := by decide +kernel
theorem dX10_init_42 : decode cX10_init 42 = .ok (.bipush 10, 2) := by decide +kernel
theorem dX10_init_44 : decode cX10_init 44 = .ok (.anewarray 32, 3) := by decide +kernel
theorem dX10_init_47 : decode cX10_init 47 = .ok (.putfield 34, 3) := by decide +kernel
theorem dX10_init_50 : decode cX10_init 50 = .ok (.aload_n 0, 1) := by decide +kernel
theorem dX10_init_51 : decode cX10_init 51 = .ok (.iconst 5, 1) := by decide +kernel
theorem dX10_init_52 : decode cX10_init 52 = .ok (.anewarray 38, 3) := by decide +kernel
theorem dX10_init_55 : decode cX10_init 55 = .ok (.putfield 40, 3) := by decide +kernel
theorem dX10_init_58 : decode cX10_init 58 = .ok (.aload_n 0, 1) := by decide +kernel
theorem dX10_init_59 : decode cX10_init 59 = .ok (.new 44, 3) := by decide +kernel
theorem dX10_init_62 : decode cX10_init 62 = .ok (.dup, 1) := by decide +kernel
theorem dX10_init_63 : decode cX10_init 63 = .ok (.invokespecial 46, 3) := by decide +kernel
theorem dX10_init_66 : decode cX10_init 66 = .ok (.putfield 47, 3) := by decide +kernel
theorem dX10_init_69 : decode cX10_init 69 = .ok (.aload_n 0, 1) := by decide +kernel
theorem dX10_init_70 : decode cX10_init 70 = .ok (.new 51, 3) := by decide +kernel
theorem dX10_init_73 : decode cX10_init 73 = .ok (.dup, 1) := by decide +kernel
theorem dX10_init_74 : decode cX10_init 74 = .ok (.invokespecial 53, 3) := by decide +kernel
theorem dX10_init_77 : decode cX10_init 77 = .ok (.putfield 54, 3) := by decide +kernel
theorem dX10_init_80 : decode cX10_init 80 = .ok (.aload_n 0, 1) := by decide +kernel
theorem dX10_init_81 : decode cX10_init 81 = .ok (.new 58, 3) := by decide +kernel
theorem dX10_init_84 : decode cX10_init 84 = .ok (.dup, 1) := by decide +kernel
theorem dX10_init_85 : decode cX10_init 85 = .ok (.invokespecial 60, 3) := by decide +kernel
theorem dX10_init_88 : decode cX10_init 88 = .ok (.putfield 61, 3) := by decide +kernel
theorem dX10_init_91 : decode cX10_init 91 = .ok (.aload_n 0, 1) := by decide +kernel
theorem dX10_init_92 : decode cX10_init 92 = .ok (.new 65, 3) := by decide +kernel
theorem dX10_init_95 : decode cX10_init 95 = .ok (.dup, 1) := by decide +kernel
theorem dX10_init_96 : decode cX10_init 96 = .ok (.invokespecial 67, 3) := by decide +kernel
theorem dX10_init_99 : decode cX10_init 99 = .ok (.putfield 68, 3) := by decide +kernel
theorem dX10_init_102 : decode cX10_init 102 = .ok (.aload_n 0, 1) := by decide +kernel
theorem dX10_init_103 : decode cX10_init 103 = .ok (.new 72, 3) := by decide +kernel
theorem dX10_init_106 : decode cX10_init 106 = .ok (.dup, 1) := by decide +kernel
theorem dX10_init_107 : decode cX10_init 107 = .ok (.invokespecial 74, 3) := by decide +kernel
theorem dX10_init_110 : decode cX10_init 110 = .ok (.putfield 75, 3) := by decide +kernel
theorem dX10_init_113 : decode cX10_init 113 = .ok (.aload_n 0, 1) := by decide +kernel
theorem dX10_init_114 : decode cX10_init 114 = .ok (.sipush 1000, 3) := by decide +kernel
theorem dX10_init_117 : decode cX10_init 117 = .ok (.putfield 79, 3) := by decide +kernel
theorem dX10_init_120 : decode cX10_init 120 = .ok (.return_, 1) := by decide +kernel
theorem dX10_feed_0 : decode cX10_feed 0 = .ok (.aload_n 0, 1) := by decide +kernel
theorem dX10_feed_1 : decode cX10_feed 1 = .ok (.getfield 10, 3) := by decide +kernel
theorem dX10_feed_4 : decode cX10_feed 4 = .ok (.getfield 83, 3) := by decide +kernel
theorem dX10_feed_7 : decode cX10_feed 7 = .ok (.sipush 180, 3) := by decide +kernel
theorem dX10_feed_10 : decode cX10_feed 10 = .ok (.if_icmp .le 5, 3) := by decide +kernel
theorem dX10_feed_13 : decode cX10_feed 13 = .ok (.iconst (-1), 1) := by decide +kernel
theorem dX10_feed_14 : decode cX10_feed 14 = .ok (.ireturn, 1) := by decide +kernel
theorem dX10_feed_15 : decode cX10_feed 15 = .ok (.aload_n 0, 1) := by decide +kernel
theorem dX10_feed_16 : decode cX10_feed 16 = .ok (.getfield 10, 3) := by decide +kernel
theorem dX10_feed_19 : decode cX10_feed 19 = .ok (.iload_n 1, 1) := by decide +kernel
theorem dX10_feed_20 : decode cX10_feed 20 = .ok (.invokevirtual 86, 3) := by decide +kernel
theorem dX10_feed_23 : decode cX10_feed 23 = .ok (.aload_n 0, 1) := by decide +kernel
theorem dX10_feed_24 : decode cX10_feed 24 = .ok (.getfield 10, 3) := by decide +kernel
theorem dX10_feed_27 : decode cX10_feed 27 = .ok (.iload_n 2, 1) := by decide +kernel
theorem dX10_feed_28 : decode cX10_feed 28 = .ok (.invokevirtual 86, 3) := by decide +kernel
theorem dX10_feed_31 : decode cX10_feed 31 = .ok (.aload_n 0, 1) := by decide +kernel
theorem dX10_feed_32 : decode cX10_feed 32 = .ok (.getfield 10, 3) := by decide +kernel
theorem dX10_feed_35 : decode cX10_feed 35 = .ok (.iload_n 3, 1) := by decide +kernel
theorem dX10_feed_36 : decode cX10_feed 36 = .ok (.invokevirtual 86, 3) := by decide +kernel
theorem dX10_feed_39 : decode cX10_feed 39 = .ok (.aload_n 0, 1) := by decide +kernel
theorem dX10_feed_40 : decode cX10_feed 40 = .ok (.getfield 10, 3) := by decide +kernel
theorem dX10_feed_43 : decode cX10_feed 43 = .ok (.iload 4, 2) := by decide +kernel
theorem dX10_feed_45 : decode cX10_feed 45 = .ok (.invokevirtual 86, 3) := by decide +kernel
theorem dX10_feed_48 : decode cX10_feed 48 = .ok (.aload_n 0, 1) := by decide +kernel
theorem dX10_feed_49 : decode cX10_feed 49 = .ok (.getfield 10, 3) := by decide +kernel
theorem dX10_feed_52 : decode cX10_feed 52 = .ok (.iload 5, 2) := by decide +kernel
theorem dX10_feed_54 : decode cX10_feed 54 = .ok (.invokevirtual 86, 3) := by decide +kernel
theorem dX10_feed_57 : decode cX10_feed 57 = .ok (.aload_n 0, 1) := by decide +kernel
theorem dX10_feed_58 : decode cX10_feed 58 = .ok (.getfield 10, 3) := by decide +kernel
theorem dX10_feed_61 : decode cX10_feed 61 = .ok (.getfield 83, 3) := by decide +kernel
theorem dX10_feed_64 : decode cX10_feed 64 = .ok (.ireturn, 1) := by decide +kernel
theorem dX10_end_0 : decode cX10_end 0 = .ok (.iload_n 1, 1) := by decide +kernel
theorem dX10_end_1 : decode cX10_end 1 = .ok (.ifCond .lt 14, 3) := by decide +kernel
theorem dX10_end_4 : decode cX10_end 4 = .ok (.iload_n 1, 1) := by decide +kernel
theorem dX10_end_5 : decode cX10_end 5 = .ok (.aload_n 0, 1) := by decide +kernel
theorem dX10_end_6 : decode cX10_end 6 = .ok (.getfield 10, 3) := by decide +kernel
theorem dX10_end_9 : decode cX10_end 9 = .ok (.getfield 83, 3) := by decide +kernel
theorem dX10_end_12 : decode cX10_end 12 = .ok (.if_icmp .le 5, 3) := by decide +kernel
theorem dX10_end_15 : decode cX10_end 15 = .ok (.iconst 0, 1) := by decide +kernel
theorem dX10_end_16 : decode cX10_end 16 = .ok (.ireturn, 1) := by decide +kernel
theorem dX10_end_17 : decode cX10_end 17 = .ok (.aload_n 0, 1) := by decide +kernel
theorem dX10_end_18 : decode cX10_end 18 = .ok (.getfield 10, 3) := by decide +kernel
theorem dX10_end_21 : decode cX10_end 21 = .ok (.iload_n 1, 1) := by decide +kernel
theorem dX10_end_22 : decode cX10_end 22 = .ok (.putfield 83, 3) := by decide +kernel
theorem dX10_end_25 : decode cX10_end 25 = .ok (.iconst 1, 1) := by decide +kernel
theorem dX10_end_26 : decode cX10_end 26 = .ok (.ireturn, 1) := by decide +kernel
theorem dX10_fault_0 : decode cX10_fault 0 = .ok (.aload_n 0, 1) := by decide +kernel
theorem dX10_fault_1 : decode cX10_fault 1 = .ok (.getfield 21, 3) := by decide +kernel
theorem dX10_fault_4 : decode cX10_fault 4 = .ok (.invokevirtual 90, 3) := by decide +kernel
theorem dX10_fault_7 : decode cX10_fault 7 = .ok (.ireturn, 1) := by decide +kernel
theorem dX10_sheet_0 : decode cX10_sheet 0 = .ok (.aload_n 0, 1) := by decide +kernel
theorem dX10_sheet_1 : decode cX10_sheet 1 = .ok (.getfield 94, 3) := by decide +kernel
theorem dX10_sheet_4 : decode cX10_sheet 4 = .ok (.bipush 10, 2) := by decide +kernel
theorem dX10_sheet_6 : decode cX10_sheet 6 = .ok (.if_icmp .ge 14, 3) := by decide +kernel
theorem dX10_sheet_9 : decode cX10_sheet 9 = .ok (.aload_n 0, 1) := by decide +kernel
theorem dX10_sheet_10 : decode cX10_sheet 10 = .ok (.getfield 21, 3) := by decide +kernel
theorem dX10_sheet_13 : decode cX10_sheet 13 = .ok (.invokevirtual 90, 3) := by decide +kernel
theorem dX10_sheet_16 : decode cX10_sheet 16 = .ok (.iconst (-1), 1) := by decide +kernel
theorem dX10_sheet_17 : decode cX10_sheet 17 = .ok (.if_icmp .eq 5, 3) := by decide +kernel
theorem dX10_sheet_20 : decode cX10_sheet 20 = .ok (.iconst (-1), 1) := by decide +kernel
theorem dX10_sheet_21 : decode cX10_sheet 21 = .ok (.ireturn, 1) := by decide +kernel
theorem dX10_sheet_22 : decode cX10_sheet 22 = .ok (.aload_n 0, 1) := by decide +kernel
theorem dX10_sheet_23 : decode cX10_sheet 23 = .ok (.getfield 34, 3) := by decide +kernel
theorem dX10_sheet_26 : decode cX10_sheet 26 = .ok (.aload_n 0, 1) := by decide +kernel
theorem dX10_sheet_27 : decode cX10_sheet 27 = .ok (.getfield 94, 3) := by decide +kernel
theorem dX10_sheet_30 : decode cX10_sheet 30 = .ok (.new 32, 3) := by decide +kernel
theorem dX10_sheet_33 : decode cX10_sheet 33 = .ok (.dup, 1) := by decide +kernel
theorem dX10_sheet_34 : decode cX10_sheet 34 = .ok (.aload_n 0, 1) := by decide +kernel
theorem dX10_sheet_35 : decode cX10_sheet 35 = .ok (.getfield 21, 3) := by decide +kernel
theorem dX10_sheet_38 : decode cX10_sheet 38 = .ok (.getfield 97, 3) := by decide +kernel
theorem dX10_sheet_41 : decode cX10_sheet 41 = .ok (.aload_n 0, 1) := by decide +kernel
theorem dX10_sheet_42 : decode cX10_sheet 42 = .ok (.getfield 21, 3) := by decide +kernel
theorem dX10_sheet_45 : decode cX10_sheet 45 = .ok (.getfield 101, 3) := by decide +kernel
theorem dX10_sheet_48 : decode cX10_sheet 48 = .ok (.invokestatic 104, 3) := by decide +kernel
theorem dX10_sheet_51 : decode cX10_sheet 51 = .ok (.invokespecial 110, 3) := by decide +kernel
theorem dX10_sheet_54 : decode cX10_sheet 54 = .ok (.aastore, 1) := by decide +kernel
theorem dX10_sheet_55 : decode cX10_sheet 55 = .ok (.aload_n 0, 1) := by decide +kernel
theorem dX10_sheet_56 : decode cX10_sheet 56 = .ok (.dup, 1) := by decide +kernel
theorem dX10_sheet_57 : decode cX10_sheet 57 = .ok (.getfield 94, 3) := by decide +kernel
theorem dX10_sheet_60 : decode cX10_sheet 60 = .ok (.iconst 1, 1) := by decide +kernel
theorem dX10_sheet_61 : decode cX10_sheet 61 = .ok (.iadd, 1) := by decide +kernel
theorem dX10_sheet_62 : decode cX10_sheet 62 = .ok (.putfield 94, 3) := by decide +kernel
theorem dX10_sheet_65 : decode cX10_sheet 65 = .ok (.aload_n 0, 1) := by decide +kernel
theorem dX10_sheet_66 : decode cX10_sheet 66 = .ok (.getfield 10, 3) := by decide +kernel
theorem dX10_sheet_69 : decode cX10_sheet 69 = .ok (.iconst 0, 1) := by decide +kernel
theorem dX10_sheet_70 : decode cX10_sheet 70 = .ok (.putfield 83, 3) := by decide +kernel
theorem dX10_sheet_73 : decode cX10_sheet 73 = .ok (.aload_n 0, 1) := by decide +kernel
theorem dX10_sheet_74 : decode cX10_sheet 74 = .ok (.getfield 94, 3) := by decide +kernel
theorem dX10_sheet_77 : decode cX10_sheet 77 = .ok (.iconst 1, 1) := by decide +kernel
theorem dX10_sheet_78 : decode cX10_sheet 78 = .ok (.isub, 1) := by decide +kernel
theorem dX10_sheet_79 : decode cX10_sheet 79 = .ok (.ireturn, 1) := by decide +kernel
theorem dX10_value_0 : decode cX10_value 0 = .ok (.aload_n 0, 1) := by decide +kernel
theorem dX10_value_1 : decode cX10_value 1 = .ok (.iload_n 1, 1) := by decide +kernel
theorem dX10_value_2 : decode cX10_value 2 = .ok (.invokevirtual 113, 3) := by decide +kernel
theorem dX10_value_5 : decode cX10_value 5 = .ok (.astore 5, 2) := by decide +kernel
theorem dX10_value_7 : decode cX10_value 7 = .ok (.aload 5, 2) := by decide +kernel
theorem dX10_value_9 : decode cX10_value 9 = .ok (.ifnull 25, 3) := by decide +kernel
theorem dX10_value_12 : decode cX10_value 12 = .ok (.iload_n 3, 1) := by decide +kernel
theorem dX10_value_13 : decode cX10_value 13 = .ok (.iconst 1, 1) := by decide +kernel
theorem dX10_value_14 : decode cX10_value 14 = .ok (.if_icmp .lt 20, 3) := by decide +kernel
theorem dX10_value_17 : decode cX10_value 17 = .ok (.iload_n 3, 1) := by decide +kernel
theorem dX10_value_18 : decode cX10_value 18 = .ok (.ldc 117, 2) := by decide +kernel
theorem dX10_value_20 : decode cX10_value 20 = .ok (.if_icmp .gt 14, 3) := by decide +kernel
theorem dX10_value_23 : decode cX10_value 23 = .ok (.iload 4, 2) := by decide +kernel
theorem dX10_value_25 : decode cX10_value 25 = .ok (.ifCond .lt 9, 3) := by decide +kernel
theorem dX10_value_28 : decode cX10_value 28 = .ok (.iload 4, 2) := by decide +kernel
theorem dX10_value_30 : decode cX10_value 30 = .ok (.iconst 1, 1) := by decide +kernel
theorem dX10_value_31 : decode cX10_value 31 = .ok (.if_icmp .le 6, 3) := by decide +kernel
theorem dX10_value_34 : decode cX10_value 34 = .ok (.ldc 118, 2) := by decide +kernel
theorem dX10_value_36 : decode cX10_value 36 = .ok (.ireturn, 1) := by decide +kernel
theorem dX10_value_37 : decode cX10_value 37 = .ok (.aload_n 0, 1) := by decide +kernel
theorem dX10_value_38 : decode cX10_value 38 = .ok (.getfield 28, 3) := by decide +kernel
theorem dX10_value_41 : decode cX10_value 41 = .ok (.aload 5, 2) := by decide +kernel
theorem dX10_value_43 : decode cX10_value 43 = .ok (.getfield 119, 3) := by decide +kernel
theorem dX10_value_46 : decode cX10_value 46 = .ok (.iload_n 2, 1) := by decide +kernel
theorem dX10_value_47 : decode cX10_value 47 = .ok (.i2l, 1) := by decide +kernel
theorem dX10_value_48 : decode cX10_value 48 = .ok (.iload_n 3, 1) := by decide +kernel
theorem dX10_value_49 : decode cX10_value 49 = .ok (.i2l, 1) := by decide +kernel
theorem dX10_value_50 : decode cX10_value 50 = .ok (.invokevirtual 120, 3) := by decide +kernel
theorem dX10_value_53 : decode cX10_value 53 = .ok (.aload_n 0, 1) := by decide +kernel
theorem dX10_value_54 : decode cX10_value 54 = .ok (.getfield 28, 3) := by decide +kernel
theorem dX10_value_57 : decode cX10_value 57 = .ok (.invokevirtual 124, 3) := by decide +kernel
theorem dX10_value_60 : decode cX10_value 60 = .ok (.ifCond .eq 6, 3) := by decide +kernel
theorem dX10_value_63 : decode cX10_value 63 = .ok (.ldc 118, 2) := by decide +kernel
theorem dX10_value_65 : decode cX10_value 65 = .ok (.ireturn, 1) := by decide +kernel
theorem dX10_value_66 : decode cX10_value 66 = .ok (.iload 4, 2) := by decide +kernel
theorem dX10_value_68 : decode cX10_value 68 = .ok (.ifCond .ne 13, 3) := by decide +kernel
theorem dX10_value_71 : decode cX10_value 71 = .ok (.aload_n 0, 1) := by decide +kernel
theorem dX10_value_72 : decode cX10_value 72 = .ok (.getfield 28, 3) := by decide +kernel
theorem dX10_value_75 : decode cX10_value 75 = .ok (.invokevirtual 128, 3) := by decide +kernel
theorem dX10_value_78 : decode cX10_value 78 = .ok (.goto 10, 3) := by decide +kernel
theorem dX10_value_81 : decode cX10_value 81 = .ok (.aload_n 0, 1) := by decide +kernel
theorem dX10_value_82 : decode cX10_value 82 = .ok (.getfield 28, 3) := by decide +kernel
theorem dX10_value_85 : decode cX10_value 85 = .ok (.invokevirtual 132, 3) := by decide +kernel
theorem dX10_value_88 : decode cX10_value 88 = .ok (.l2i, 1) := by decide +kernel
theorem dX10_value_89 : decode cX10_value 89 = .ok (.ireturn, 1) := by decide +kernel
theorem dX10_go_0 : decode cX10_go 0 = .ok (.iload_n 1, 1) := by decide +kernel
theorem dX10_go_1 : decode cX10_go 1 = .ok (.ifCond .lt 9, 3) := by decide +kernel
theorem dX10_go_4 : decode cX10_go 4 = .ok (.iload_n 1, 1) := by decide +kernel
theorem dX10_go_5 : decode cX10_go 5 = .ok (.bipush 100, 2) := by decide +kernel
theorem dX10_go_7 : decode cX10_go 7 = .ok (.if_icmp .le 5, 3) := by decide +kernel
theorem dX10_go_10 : decode cX10_go 10 = .ok (.iconst (-1), 1) := by decide +kernel
theorem dX10_go_11 : decode cX10_go 11 = .ok (.ireturn, 1) := by decide +kernel
theorem dX10_go_12 : decode cX10_go 12 = .ok (.aload_n 0, 1) := by decide +kernel
theorem dX10_go_13 : decode cX10_go 13 = .ok (.sipush 999, 3) := by decide +kernel
theorem dX10_go_16 : decode cX10_go 16 = .ok (.aload_n 0, 1) := by decide +kernel
theorem dX10_go_17 : decode cX10_go 17 = .ok (.getfield 135, 3) := by decide +kernel
theorem dX10_go_20 : decode cX10_go 20 = .ok (.iload_n 1, 1) := by decide +kernel
theorem dX10_go_21 : decode cX10_go 21 = .ok (.iadd, 1) := by decide +kernel
theorem dX10_go_22 : decode cX10_go 22 = .ok (.invokestatic 138, 3) := by decide +kernel
theorem dX10_go_25 : decode cX10_go 25 = .ok (.putfield 135, 3) := by decide +kernel
theorem dX10_go_28 : decode cX10_go 28 = .ok (.aload_n 0, 1) := by decide +kernel
theorem dX10_go_29 : decode cX10_go 29 = .ok (.getfield 135, 3) := by decide +kernel
theorem dX10_go_32 : decode cX10_go 32 = .ok (.ireturn, 1) := by decide +kernel
theorem dX10_table_0 : decode cX10_table 0 = .ok (.aload_n 0, 1) := by decide +kernel
theorem dX10_table_1 : decode cX10_table 1 = .ok (.iload_n 1, 1) := by decide +kernel
theorem dX10_table_2 : decode cX10_table 2 = .ok (.invokevirtual 113, 3) := by decide +kernel
theorem dX10_table_5 : decode cX10_table 5 = .ok (.astore 5, 2) := by decide +kernel
theorem dX10_table_7 : decode cX10_table 7 = .ok (.aload 5, 2) := by decide +kernel
theorem dX10_table_9 : decode cX10_table 9 = .ok (.ifnull 25, 3) := by decide +kernel
theorem dX10_table_12 : decode cX10_table 12 = .ok (.aload_n 0, 1) := by decide +kernel
theorem dX10_table_13 : decode cX10_table 13 = .ok (.getfield 144, 3) := by decide +kernel
theorem dX10_table_16 : decode cX10_table 16 = .ok (.iconst 5, 1) := by decide +kernel
theorem dX10_table_17 : decode cX10_table 17 = .ok (.if_icmp .ge 17, 3) := by decide +kernel
theorem dX10_table_20 : decode cX10_table 20 = .ok (.iload_n 2, 1) := by decide +kernel
theorem dX10_table_21 : decode cX10_table 21 = .ok (.sipush (-1000), 3) := by decide +kernel
theorem dX10_table_24 : decode cX10_table 24 = .ok (.if_icmp .lt 10, 3) := by decide +kernel
theorem dX10_table_27 : decode cX10_table 27 = .ok (.iload_n 2, 1) := by decide +kernel
theorem dX10_table_28 : decode cX10_table 28 = .ok (.sipush 1000, 3) := by decide +kernel
theorem dX10_table_31 : decode cX10_table 31 = .ok (.if_icmp .le 5, 3) := by decide +kernel
theorem dX10_table_34 : decode cX10_table 34 = .ok (.iconst (-1), 1) := by decide +kernel
theorem dX10_table_35 : decode cX10_table 35 = .ok (.ireturn, 1) := by decide +kernel
theorem dX10_table_36 : decode cX10_table 36 = .ok (.iload_n 3, 1) := by decide +kernel
theorem dX10_table_37 : decode cX10_table 37 = .ok (.sipush 1000, 3) := by decide +kernel
theorem dX10_table_40 : decode cX10_table 40 = .ok (.idiv, 1) := by decide +kernel
theorem dX10_table_41 : decode cX10_table 41 = .ok (.istore 6, 2) := by decide +kernel
theorem dX10_table_43 : decode cX10_table 43 = .ok (.iload_n 3, 1) := by decide +kernel
theorem dX10_table_44 : decode cX10_table 44 = .ok (.sipush 1000, 3) := by decide +kernel
theorem dX10_table_47 : decode cX10_table 47 = .ok (.irem, 1) := by decide +kernel
theorem dX10_table_48 : decode cX10_table 48 = .ok (.istore 7, 2) := by decide +kernel
theorem dX10_table_50 : decode cX10_table 50 = .ok (.iload 4, 2) := by decide +kernel
theorem dX10_table_52 : decode cX10_table 52 = .ok (.bipush 10, 2) := by decide +kernel
theorem dX10_table_54 : decode cX10_table 54 = .ok (.idiv, 1) := by decide +kernel
theorem dX10_table_55 : decode cX10_table 55 = .ok (.istore 8, 2) := by decide +kernel
theorem dX10_table_57 : decode cX10_table 57 = .ok (.iload 4, 2) := by decide +kernel
theorem dX10_table_59 : decode cX10_table 59 = .ok (.bipush 10, 2) := by decide +kernel
theorem dX10_table_61 : decode cX10_table 61 = .ok (.irem, 1) := by decide +kernel
theorem dX10_table_62 : decode cX10_table 62 = .ok (.istore 9, 2) := by decide +kernel
theorem dX10_table_64 : decode cX10_table 64 = .ok (.iload 6, 2) := by decide +kernel
theorem dX10_table_66 : decode cX10_table 66 = .ok (.iconst 1, 1) := by decide +kernel
theorem dX10_table_67 : decode cX10_table 67 = .ok (.if_icmp .lt 23, 3) := by decide +kernel
theorem dX10_table_70 : decode cX10_table 70 = .ok (.iload 6, 2) := by decide +kernel
theorem dX10_table_72 : decode cX10_table 72 = .ok (.bipush 100, 2) := by decide +kernel
theorem dX10_table_74 : decode cX10_table 74 = .ok (.if_icmp .gt 16, 3) := by decide +kernel
theorem dX10_table_77 : decode cX10_table 77 = .ok (.iload 7, 2) := by decide +kernel
theorem dX10_table_79 : decode cX10_table 79 = .ok (.iconst 1, 1) := by decide +kernel
theorem dX10_table_80 : decode cX10_table 80 = .ok (.if_icmp .lt 10, 3) := by decide +kernel
theorem dX10_table_83 : decode cX10_table 83 = .ok (.iload 7, 2) := by decide +kernel
theorem dX10_table_85 : decode cX10_table 85 = .ok (.bipush 100, 2) := by decide +kernel
theorem dX10_table_87 : decode cX10_table 87 = .ok (.if_icmp .le 5, 3) := by decide +kernel
theorem dX10_table_90 : decode cX10_table 90 = .ok (.iconst (-1), 1) := by decide +kernel
theorem dX10_table_91 : decode cX10_table 91 = .ok (.ireturn, 1) := by decide +kernel
theorem dX10_table_92 : decode cX10_table 92 = .ok (.iload 8, 2) := by decide +kernel
theorem dX10_table_94 : decode cX10_table 94 = .ok (.iconst 4, 1) := by decide +kernel
theorem dX10_table_95 : decode cX10_table 95 = .ok (.if_icmp .lt 21, 3) := by decide +kernel
theorem dX10_table_98 : decode cX10_table 98 = .ok (.iload 8, 2) := by decide +kernel
theorem dX10_table_100 : decode cX10_table 100 = .ok (.bipush 30, 2) := by decide +kernel
theorem dX10_table_102 : decode cX10_table 102 = .ok (.if_icmp .gt 14, 3) := by decide +kernel
theorem dX10_table_105 : decode cX10_table 105 = .ok (.iload 9, 2) := by decide +kernel
theorem dX10_table_107 : decode cX10_table 107 = .ok (.ifCond .lt 9, 3) := by decide +kernel
theorem dX10_table_110 : decode cX10_table 110 = .ok (.iload 9, 2) := by decide +kernel
theorem dX10_table_112 : decode cX10_table 112 = .ok (.iconst 4, 1) := by decide +kernel
theorem dX10_table_113 : decode cX10_table 113 = .ok (.if_icmp .le 5, 3) := by decide +kernel
theorem dX10_table_116 : decode cX10_table 116 = .ok (.iconst (-1), 1) := by decide +kernel
theorem dX10_table_117 : decode cX10_table 117 = .ok (.ireturn, 1) := by decide +kernel
theorem dX10_table_118 : decode cX10_table 118 = .ok (.new 38, 3) := by decide +kernel
theorem dX10_table_121 : decode cX10_table 121 = .ok (.dup, 1) := by decide +kernel
theorem dX10_table_122 : decode cX10_table 122 = .ok (.iload 8, 2) := by decide +kernel
theorem dX10_table_124 : decode cX10_table 124 = .ok (.invokespecial 147, 3) := by decide +kernel
theorem dX10_table_127 : decode cX10_table 127 = .ok (.astore 10, 2) := by decide +kernel
theorem dX10_table_129 : decode cX10_table 129 = .ok (.iconst 0, 1) := by decide +kernel
theorem dX10_table_130 : decode cX10_table 130 = .ok (.istore 11, 2) := by decide +kernel
theorem dX10_table_132 : decode cX10_table 132 = .ok (.iload 11, 2) := by decide +kernel
theorem dX10_table_134 : decode cX10_table 134 = .ok (.aload 10, 2) := by decide +kernel
theorem dX10_table_136 : decode cX10_table 136 = .ok (.getfield 149, 3) := by decide +kernel
theorem dX10_table_139 : decode cX10_table 139 = .ok (.if_icmp .ge 49, 3) := by decide +kernel
theorem dX10_table_142 : decode cX10_table 142 = .ok (.aload_n 0, 1) := by decide +kernel
theorem dX10_table_143 : decode cX10_table 143 = .ok (.getfield 28, 3) := by decide +kernel
theorem dX10_table_146 : decode cX10_table 146 = .ok (.aload 5, 2) := by decide +kernel
theorem dX10_table_148 : decode cX10_table 148 = .ok (.getfield 119, 3) := by decide +kernel
theorem dX10_table_151 : decode cX10_table 151 = .ok (.iload_n 2, 1) := by decide +kernel
theorem dX10_table_152 : decode cX10_table 152 = .ok (.iload 11, 2) := by decide +kernel
theorem dX10_table_154 : decode cX10_table 154 = .ok (.iload 6, 2) := by decide +kernel
theorem dX10_table_156 : decode cX10_table 156 = .ok (.imul, 1) := by decide +kernel
theorem dX10_table_157 : decode cX10_table 157 = .ok (.iadd, 1) := by decide +kernel
theorem dX10_table_158 : decode cX10_table 158 = .ok (.i2l, 1) := by decide +kernel
theorem dX10_table_159 : decode cX10_table 159 = .ok (.iload 7, 2) := by decide +kernel
theorem dX10_table_161 : decode cX10_table 161 = .ok (.i2l, 1) := by decide +kernel
theorem dX10_table_162 : decode cX10_table 162 = .ok (.invokevirtual 120, 3) := by decide +kernel
theorem dX10_table_165 : decode cX10_table 165 = .ok (.aload 10, 2) := by decide +kernel
theorem dX10_table_167 : decode cX10_table 167 = .ok (.getfield 152, 3) := by decide +kernel
theorem dX10_table_170 : decode cX10_table 170 = .ok (.iload 11, 2) := by decide +kernel
theorem dX10_table_172 : decode cX10_table 172 = .ok (.aload_n 0, 1) := by decide +kernel
theorem dX10_table_173 : decode cX10_table 173 = .ok (.getfield 28, 3) := by decide +kernel
theorem dX10_table_176 : decode cX10_table 176 = .ok (.iload 9, 2) := by decide +kernel
theorem dX10_table_178 : decode cX10_table 178 = .ok (.invokevirtual 155, 3) := by decide +kernel
theorem dX10_table_181 : decode cX10_table 181 = .ok (.iastore, 1) := by decide +kernel
theorem dX10_table_182 : decode cX10_table 182 = .ok (.iinc 11 1, 3) := by decide +kernel
theorem dX10_table_185 : decode cX10_table 185 = .ok (.goto (-53), 3) := by decide +kernel
theorem dX10_table_188 : decode cX10_table 188 = .ok (.aload_n 0, 1) := by decide +kernel
theorem dX10_table_189 : decode cX10_table 189 = .ok (.getfield 40, 3) := by decide +kernel
theorem dX10_table_192 : decode cX10_table 192 = .ok (.aload_n 0, 1) := by decide +kernel
theorem dX10_table_193 : decode cX10_table 193 = .ok (.getfield 144, 3) := by decide +kernel
theorem dX10_table_196 : decode cX10_table 196 = .ok (.aload 10, 2) := by decide +kernel
theorem dX10_table_198 : decode cX10_table 198 = .ok (.aastore, 1) := by decide +kernel
theorem dX10_table_199 : decode cX10_table 199 = .ok (.aload_n 0, 1) := by decide +kernel
theorem dX10_table_200 : decode cX10_table 200 = .ok (.dup, 1) := by decide +kernel
theorem dX10_table_201 : decode cX10_table 201 = .ok (.getfield 144, 3) := by decide +kernel
theorem dX10_table_204 : decode cX10_table 204 = .ok (.iconst 1, 1) := by decide +kernel
theorem dX10_table_205 : decode cX10_table 205 = .ok (.iadd, 1) := by decide +kernel
theorem dX10_table_206 : decode cX10_table 206 = .ok (.putfield 144, 3) := by decide +kernel
theorem dX10_table_209 : decode cX10_table 209 = .ok (.aload_n 0, 1) := by decide +kernel
theorem dX10_table_210 : decode cX10_table 210 = .ok (.getfield 144, 3) := by decide +kernel
theorem dX10_table_213 : decode cX10_table 213 = .ok (.iconst 1, 1) := by decide +kernel
theorem dX10_table_214 : decode cX10_table 214 = .ok (.isub, 1) := by decide +kernel
theorem dX10_table_215 : decode cX10_table 215 = .ok (.ireturn, 1) := by decide +kernel
theorem dX10_exact_0 : decode cX10_exact 0 = .ok (.aload_n 0, 1) := by decide +kernel
theorem dX10_exact_1 : decode cX10_exact 1 = .ok (.iload_n 1, 1) := by decide +kernel
theorem dX10_exact_2 : decode cX10_exact 2 = .ok (.invokevirtual 159, 3) := by decide +kernel
theorem dX10_exact_5 : decode cX10_exact 5 = .ok (.astore_n 3, 1) := by decide +kernel
theorem dX10_exact_6 : decode cX10_exact 6 = .ok (.aload_n 3, 1) := by decide +kernel
theorem dX10_exact_7 : decode cX10_exact 7 = .ok (.ifnonnull 8, 3) := by decide +kernel
theorem dX10_exact_10 : decode cX10_exact 10 = .ok (.ldc 118, 2) := by decide +kernel
theorem dX10_exact_12 : decode cX10_exact 12 = .ok (.goto 8, 3) := by decide +kernel
theorem dX10_exact_15 : decode cX10_exact 15 = .ok (.aload_n 3, 1) := by decide +kernel
theorem dX10_exact_16 : decode cX10_exact 16 = .ok (.iload_n 2, 1) := by decide +kernel
theorem dX10_exact_17 : decode cX10_exact 17 = .ok (.invokevirtual 163, 3) := by decide +kernel
theorem dX10_exact_20 : decode cX10_exact 20 = .ok (.ireturn, 1) := by decide +kernel
theorem dX10_hand_0 : decode cX10_hand 0 = .ok (.aload_n 0, 1) := by decide +kernel
theorem dX10_hand_1 : decode cX10_hand 1 = .ok (.getfield 47, 3) := by decide +kernel
theorem dX10_hand_4 : decode cX10_hand 4 = .ok (.getfield 166, 3) := by decide +kernel
theorem dX10_hand_7 : decode cX10_hand 7 = .ok (.bipush 8, 2) := by decide +kernel
theorem dX10_hand_9 : decode cX10_hand 9 = .ok (.if_icmp .lt 5, 3) := by decide +kernel
theorem dX10_hand_12 : decode cX10_hand 12 = .ok (.iconst (-1), 1) := by decide +kernel
theorem dX10_hand_13 : decode cX10_hand 13 = .ok (.ireturn, 1) := by decide +kernel
theorem dX10_hand_14 : decode cX10_hand 14 = .ok (.aload_n 0, 1) := by decide +kernel
theorem dX10_hand_15 : decode cX10_hand 15 = .ok (.getfield 47, 3) := by decide +kernel
theorem dX10_hand_18 : decode cX10_hand 18 = .ok (.dup, 1) := by decide +kernel
theorem dX10_hand_19 : decode cX10_hand 19 = .ok (.getfield 166, 3) := by decide +kernel
theorem dX10_hand_22 : decode cX10_hand 22 = .ok (.iconst 1, 1) := by decide +kernel
theorem dX10_hand_23 : decode cX10_hand 23 = .ok (.iadd, 1) := by decide +kernel
theorem dX10_hand_24 : decode cX10_hand 24 = .ok (.putfield 166, 3) := by decide +kernel
theorem dX10_hand_27 : decode cX10_hand 27 = .ok (.aload_n 0, 1) := by decide +kernel
theorem dX10_hand_28 : decode cX10_hand 28 = .ok (.getfield 47, 3) := by decide +kernel
theorem dX10_hand_31 : decode cX10_hand 31 = .ok (.getfield 166, 3) := by decide +kernel
theorem dX10_hand_34 : decode cX10_hand 34 = .ok (.iconst 1, 1) := by decide +kernel
theorem dX10_hand_35 : decode cX10_hand 35 = .ok (.isub, 1) := by decide +kernel
theorem dX10_hand_36 : decode cX10_hand 36 = .ok (.ireturn, 1) := by decide +kernel
theorem dX10_habit_0 : decode cX10_habit 0 = .ok (.aload_n 0, 1) := by decide +kernel
theorem dX10_habit_1 : decode cX10_habit 1 = .ok (.getfield 47, 3) := by decide +kernel
theorem dX10_habit_4 : decode cX10_habit 4 = .ok (.iload_n 1, 1) := by decide +kernel
theorem dX10_habit_5 : decode cX10_habit 5 = .ok (.iload_n 2, 1) := by decide +kernel
theorem dX10_habit_6 : decode cX10_habit 6 = .ok (.invokevirtual 169, 3) := by decide +kernel
theorem dX10_habit_9 : decode cX10_habit 9 = .ok (.ifCond .eq 16, 3) := by decide +kernel
theorem dX10_habit_12 : decode cX10_habit 12 = .ok (.aload_n 0, 1) := by decide +kernel
theorem dX10_habit_13 : decode cX10_habit 13 = .ok (.getfield 47, 3) := by decide +kernel
theorem dX10_habit_16 : decode cX10_habit 16 = .ok (.iload_n 1, 1) := by decide +kernel
theorem dX10_habit_17 : decode cX10_habit 17 = .ok (.iload_n 2, 1) := by decide +kernel
theorem dX10_habit_18 : decode cX10_habit 18 = .ok (.iload_n 3, 1) := by decide +kernel
theorem dX10_habit_19 : decode cX10_habit 19 = .ok (.invokevirtual 173, 3) := by decide +kernel
theorem dX10_habit_22 : decode cX10_habit 22 = .ok (.ifCond .ne 5, 3) := by decide +kernel
theorem dX10_habit_25 : decode cX10_habit 25 = .ok (.iconst (-1), 1) := by decide +kernel
theorem dX10_habit_26 : decode cX10_habit 26 = .ok (.ireturn, 1) := by decide +kernel
theorem dX10_habit_27 : decode cX10_habit 27 = .ok (.aload_n 0, 1) := by decide +kernel
theorem dX10_habit_28 : decode cX10_habit 28 = .ok (.getfield 47, 3) := by decide +kernel
theorem dX10_habit_31 : decode cX10_habit 31 = .ok (.getfield 177, 3) := by decide +kernel
theorem dX10_habit_34 : decode cX10_habit 34 = .ok (.ireturn, 1) := by decide +kernel
theorem dX10_would_0 : decode cX10_would 0 = .ok (.aload_n 0, 1) := by decide +kernel
theorem dX10_would_1 : decode cX10_would 1 = .ok (.iload_n 3, 1) := by decide +kernel
theorem dX10_would_2 : decode cX10_would 2 = .ok (.invokevirtual 159, 3) := by decide +kernel
theorem dX10_would_5 : decode cX10_would 5 = .ok (.astore 5, 2) := by decide +kernel
theorem dX10_would_7 : decode cX10_would 7 = .ok (.aload 5, 2) := by decide +kernel
theorem dX10_would_9 : decode cX10_would 9 = .ok (.ifnull 15, 3) := by decide +kernel
theorem dX10_would_12 : decode cX10_would 12 = .ok (.aload_n 0, 1) := by decide +kernel
theorem dX10_would_13 : decode cX10_would 13 = .ok (.getfield 47, 3) := by decide +kernel
theorem dX10_would_16 : decode cX10_would 16 = .ok (.iload_n 1, 1) := by decide +kernel
theorem dX10_would_17 : decode cX10_would 17 = .ok (.iload_n 2, 1) := by decide +kernel
theorem dX10_would_18 : decode cX10_would 18 = .ok (.invokevirtual 169, 3) := by decide +kernel
theorem dX10_would_21 : decode cX10_would 21 = .ok (.ifCond .ne 6, 3) := by decide +kernel
theorem dX10_would_24 : decode cX10_would 24 = .ok (.ldc 118, 2) := by decide +kernel
theorem dX10_would_26 : decode cX10_would 26 = .ok (.ireturn, 1) := by decide +kernel
theorem dX10_would_27 : decode cX10_would 27 = .ok (.aload_n 0, 1) := by decide +kernel
theorem dX10_would_28 : decode cX10_would 28 = .ok (.getfield 47, 3) := by decide +kernel
theorem dX10_would_31 : decode cX10_would 31 = .ok (.iload_n 1, 1) := by decide +kernel
theorem dX10_would_32 : decode cX10_would 32 = .ok (.iload_n 2, 1) := by decide +kernel
theorem dX10_would_33 : decode cX10_would 33 = .ok (.aload 5, 2) := by decide +kernel
theorem dX10_would_35 : decode cX10_would 35 = .ok (.iload 4, 2) := by decide +kernel
theorem dX10_would_37 : decode cX10_would 37 = .ok (.invokevirtual 163, 3) := by decide +kernel
theorem dX10_would_40 : decode cX10_would 40 = .ok (.invokevirtual 180, 3) := by decide +kernel
theorem dX10_would_43 : decode cX10_would 43 = .ok (.ireturn, 1) := by decide +kernel
theorem dX10_work_0 : decode cX10_work 0 = .ok (.aload_n 0, 1) := by decide +kernel
theorem dX10_work_1 : decode cX10_work 1 = .ok (.iload_n 3, 1) := by decide +kernel
theorem dX10_work_2 : decode cX10_work 2 = .ok (.invokevirtual 159, 3) := by decide +kernel
theorem dX10_work_5 : decode cX10_work 5 = .ok (.astore 5, 2) := by decide +kernel
theorem dX10_work_7 : decode cX10_work 7 = .ok (.aload 5, 2) := by decide +kernel
theorem dX10_work_9 : decode cX10_work 9 = .ok (.ifnull 26, 3) := by decide +kernel
theorem dX10_work_12 : decode cX10_work 12 = .ok (.aload_n 0, 1) := by decide +kernel
theorem dX10_work_13 : decode cX10_work 13 = .ok (.getfield 47, 3) := by decide +kernel
theorem dX10_work_16 : decode cX10_work 16 = .ok (.iload_n 1, 1) := by decide +kernel
theorem dX10_work_17 : decode cX10_work 17 = .ok (.iload_n 2, 1) := by decide +kernel
theorem dX10_work_18 : decode cX10_work 18 = .ok (.invokevirtual 169, 3) := by decide +kernel
theorem dX10_work_21 : decode cX10_work 21 = .ok (.ifCond .eq 14, 3) := by decide +kernel
theorem dX10_work_24 : decode cX10_work 24 = .ok (.aload 5, 2) := by decide +kernel
theorem dX10_work_26 : decode cX10_work 26 = .ok (.iload_n 1, 1) := by decide +kernel
theorem dX10_work_27 : decode cX10_work 27 = .ok (.iload 4, 2) := by decide +kernel
theorem dX10_work_29 : decode cX10_work 29 = .ok (.invokevirtual 184, 3) := by decide +kernel
theorem dX10_work_32 : decode cX10_work 32 = .ok (.ifCond .ne 6, 3) := by decide +kernel
theorem dX10_work_35 : decode cX10_work 35 = .ok (.ldc 118, 2) := by decide +kernel
theorem dX10_work_37 : decode cX10_work 37 = .ok (.ireturn, 1) := by decide +kernel
theorem dX10_work_38 : decode cX10_work 38 = .ok (.aload_n 0, 1) := by decide +kernel
theorem dX10_work_39 : decode cX10_work 39 = .ok (.getfield 47, 3) := by decide +kernel
theorem dX10_work_42 : decode cX10_work 42 = .ok (.iload_n 1, 1) := by decide +kernel
theorem dX10_work_43 : decode cX10_work 43 = .ok (.iload_n 2, 1) := by decide +kernel
theorem dX10_work_44 : decode cX10_work 44 = .ok (.aload 5, 2) := by decide +kernel
theorem dX10_work_46 : decode cX10_work 46 = .ok (.iload 4, 2) := by decide +kernel
theorem dX10_work_48 : decode cX10_work 48 = .ok (.invokevirtual 163, 3) := by decide +kernel
theorem dX10_work_51 : decode cX10_work 51 = .ok (.invokevirtual 180, 3) := by decide +kernel
theorem dX10_work_54 : decode cX10_work 54 = .ok (.istore 6, 2) := by decide +kernel
theorem dX10_work_56 : decode cX10_work 56 = .ok (.aload 5, 2) := by decide +kernel
theorem dX10_work_58 : decode cX10_work 58 = .ok (.iload_n 1, 1) := by decide +kernel
theorem dX10_work_59 : decode cX10_work 59 = .ok (.iload_n 2, 1) := by decide +kernel
theorem dX10_work_60 : decode cX10_work 60 = .ok (.iload 4, 2) := by decide +kernel
theorem dX10_work_62 : decode cX10_work 62 = .ok (.iload 6, 2) := by decide +kernel
theorem dX10_work_64 : decode cX10_work 64 = .ok (.aload_n 0, 1) := by decide +kernel
theorem dX10_work_65 : decode cX10_work 65 = .ok (.getfield 135, 3) := by decide +kernel
theorem dX10_work_68 : decode cX10_work 68 = .ok (.invokevirtual 187, 3) := by decide +kernel
theorem dX10_work_71 : decode cX10_work 71 = .ok (.iload 6, 2) := by decide +kernel
theorem dX10_work_73 : decode cX10_work 73 = .ok (.ireturn, 1) := by decide +kernel
theorem dX10_figure_0 : decode cX10_figure 0 = .ok (.aload_n 0, 1) := by decide +kernel
theorem dX10_figure_1 : decode cX10_figure 1 = .ok (.iload_n 1, 1) := by decide +kernel
theorem dX10_figure_2 : decode cX10_figure 2 = .ok (.invokevirtual 159, 3) := by decide +kernel
theorem dX10_figure_5 : decode cX10_figure 5 = .ok (.astore_n 3, 1) := by decide +kernel
theorem dX10_figure_6 : decode cX10_figure 6 = .ok (.aload_n 3, 1) := by decide +kernel
theorem dX10_figure_7 : decode cX10_figure 7 = .ok (.ifnonnull 8, 3) := by decide +kernel
theorem dX10_figure_10 : decode cX10_figure 10 = .ok (.ldc 118, 2) := by decide +kernel
theorem dX10_figure_12 : decode cX10_figure 12 = .ok (.goto 8, 3) := by decide +kernel
theorem dX10_figure_15 : decode cX10_figure 15 = .ok (.aload_n 3, 1) := by decide +kernel
theorem dX10_figure_16 : decode cX10_figure 16 = .ok (.iload_n 2, 1) := by decide +kernel
theorem dX10_figure_17 : decode cX10_figure 17 = .ok (.invokevirtual 191, 3) := by decide +kernel
theorem dX10_figure_20 : decode cX10_figure 20 = .ok (.ireturn, 1) := by decide +kernel
theorem dX10_pair_0 : decode cX10_pair 0 = .ok (.aload_n 0, 1) := by decide +kernel
theorem dX10_pair_1 : decode cX10_pair 1 = .ok (.iload_n 1, 1) := by decide +kernel
theorem dX10_pair_2 : decode cX10_pair 2 = .ok (.invokevirtual 159, 3) := by decide +kernel
theorem dX10_pair_5 : decode cX10_pair 5 = .ok (.astore_n 3, 1) := by decide +kernel
theorem dX10_pair_6 : decode cX10_pair 6 = .ok (.aload_n 3, 1) := by decide +kernel
theorem dX10_pair_7 : decode cX10_pair 7 = .ok (.ifnull 23, 3) := by decide +kernel
theorem dX10_pair_10 : decode cX10_pair 10 = .ok (.aload_n 0, 1) := by decide +kernel
theorem dX10_pair_11 : decode cX10_pair 11 = .ok (.getfield 47, 3) := by decide +kernel
theorem dX10_pair_14 : decode cX10_pair 14 = .ok (.getfield 166, 3) := by decide +kernel
theorem dX10_pair_17 : decode cX10_pair 17 = .ok (.iconst 2, 1) := by decide +kernel
theorem dX10_pair_18 : decode cX10_pair 18 = .ok (.if_icmp .lt 12, 3) := by decide +kernel
theorem dX10_pair_21 : decode cX10_pair 21 = .ok (.iload_n 2, 1) := by decide +kernel
theorem dX10_pair_22 : decode cX10_pair 22 = .ok (.ifCond .lt 8, 3) := by decide +kernel
theorem dX10_pair_25 : decode cX10_pair 25 = .ok (.iload_n 2, 1) := by decide +kernel
theorem dX10_pair_26 : decode cX10_pair 26 = .ok (.iconst 5, 1) := by decide +kernel
theorem dX10_pair_27 : decode cX10_pair 27 = .ok (.if_icmp .le 5, 3) := by decide +kernel
theorem dX10_pair_30 : decode cX10_pair 30 = .ok (.iconst (-1), 1) := by decide +kernel
theorem dX10_pair_31 : decode cX10_pair 31 = .ok (.ireturn, 1) := by decide +kernel
theorem dX10_pair_32 : decode cX10_pair 32 = .ok (.aload_n 0, 1) := by decide +kernel
theorem dX10_pair_33 : decode cX10_pair 33 = .ok (.getfield 47, 3) := by decide +kernel
theorem dX10_pair_36 : decode cX10_pair 36 = .ok (.aload_n 3, 1) := by decide +kernel
theorem dX10_pair_37 : decode cX10_pair 37 = .ok (.invokevirtual 194, 3) := by decide +kernel
theorem dX10_pair_40 : decode cX10_pair 40 = .ok (.aload_n 0, 1) := by decide +kernel
theorem dX10_pair_41 : decode cX10_pair 41 = .ok (.getfield 47, 3) := by decide +kernel
theorem dX10_pair_44 : decode cX10_pair 44 = .ok (.getfield 198, 3) := by decide +kernel
theorem dX10_pair_47 : decode cX10_pair 47 = .ok (.iload_n 2, 1) := by decide +kernel
theorem dX10_pair_48 : decode cX10_pair 48 = .ok (.iaload, 1) := by decide +kernel
theorem dX10_pair_49 : decode cX10_pair 49 = .ok (.ireturn, 1) := by decide +kernel
theorem dX10_engine_0 : decode cX10_engine 0 = .ok (.aload_n 0, 1) := by decide +kernel
theorem dX10_engine_1 : decode cX10_engine 1 = .ok (.iload_n 1, 1) := by decide +kernel
theorem dX10_engine_2 : decode cX10_engine 2 = .ok (.invokevirtual 159, 3) := by decide +kernel
theorem dX10_engine_5 : decode cX10_engine 5 = .ok (.astore 4, 2) := by decide +kernel
theorem dX10_engine_7 : decode cX10_engine 7 = .ok (.aload 4, 2) := by decide +kernel
theorem dX10_engine_9 : decode cX10_engine 9 = .ok (.ifnull 20, 3) := by decide +kernel
theorem dX10_engine_12 : decode cX10_engine 12 = .ok (.aload 4, 2) := by decide +kernel
theorem dX10_engine_14 : decode cX10_engine 14 = .ok (.iload_n 2, 1) := by decide +kernel
theorem dX10_engine_15 : decode cX10_engine 15 = .ok (.iload_n 3, 1) := by decide +kernel
theorem dX10_engine_16 : decode cX10_engine 16 = .ok (.aload_n 0, 1) := by decide +kernel
theorem dX10_engine_17 : decode cX10_engine 17 = .ok (.getfield 61, 3) := by decide +kernel
theorem dX10_engine_20 : decode cX10_engine 20 = .ok (.getfield 201, 3) := by decide +kernel
theorem dX10_engine_23 : decode cX10_engine 23 = .ok (.invokevirtual 205, 3) := by decide +kernel
theorem dX10_engine_26 : decode cX10_engine 26 = .ok (.ifCond .ne 5, 3) := by decide +kernel
theorem dX10_engine_29 : decode cX10_engine 29 = .ok (.iconst (-1), 1) := by decide +kernel
theorem dX10_engine_30 : decode cX10_engine 30 = .ok (.ireturn, 1) := by decide +kernel
theorem dX10_engine_31 : decode cX10_engine 31 = .ok (.aload_n 0, 1) := by decide +kernel
theorem dX10_engine_32 : decode cX10_engine 32 = .ok (.getfield 54, 3) := by decide +kernel
theorem dX10_engine_35 : decode cX10_engine 35 = .ok (.aload_n 0, 1) := by decide +kernel
theorem dX10_engine_36 : decode cX10_engine 36 = .ok (.getfield 61, 3) := by decide +kernel
theorem dX10_engine_39 : decode cX10_engine 39 = .ok (.getfield 201, 3) := by decide +kernel
theorem dX10_engine_42 : decode cX10_engine 42 = .ok (.invokevirtual 209, 3) := by decide +kernel
theorem dX10_engine_45 : decode cX10_engine 45 = .ok (.iload_n 3, 1) := by decide +kernel
theorem dX10_engine_46 : decode cX10_engine 46 = .ok (.invokestatic 213, 3) := by decide +kernel
theorem dX10_engine_49 : decode cX10_engine 49 = .ok (.ireturn, 1) := by decide +kernel
theorem dX10_stick_0 : decode cX10_stick 0 = .ok (.iload_n 2, 1) := by decide +kernel
theorem dX10_stick_1 : decode cX10_stick 1 = .ok (.ifCond .lt 20, 3) := by decide +kernel
theorem dX10_stick_4 : decode cX10_stick 4 = .ok (.iload_n 2, 1) := by decide +kernel
theorem dX10_stick_5 : decode cX10_stick 5 = .ok (.bipush 50, 2) := by decide +kernel
theorem dX10_stick_7 : decode cX10_stick 7 = .ok (.if_icmp .gt 14, 3) := by decide +kernel
theorem dX10_stick_10 : decode cX10_stick 10 = .ok (.iload_n 3, 1) := by decide +kernel
theorem dX10_stick_11 : decode cX10_stick 11 = .ok (.iconst 1, 1) := by decide +kernel
theorem dX10_stick_12 : decode cX10_stick 12 = .ok (.if_icmp .lt 9, 3) := by decide +kernel
theorem dX10_stick_15 : decode cX10_stick 15 = .ok (.iload_n 3, 1) := by decide +kernel
theorem dX10_stick_16 : decode cX10_stick 16 = .ok (.bipush 50, 2) := by decide +kernel
theorem dX10_stick_18 : decode cX10_stick 18 = .ok (.if_icmp .le 5, 3) := by decide +kernel
theorem dX10_stick_21 : decode cX10_stick 21 = .ok (.iconst 0, 1) := by decide +kernel
theorem dX10_stick_22 : decode cX10_stick 22 = .ok (.ireturn, 1) := by decide +kernel
theorem dX10_stick_23 : decode cX10_stick 23 = .ok (.aload_n 0, 1) := by decide +kernel
theorem dX10_stick_24 : decode cX10_stick 24 = .ok (.getfield 54, 3) := by decide +kernel
theorem dX10_stick_27 : decode cX10_stick 27 = .ok (.iload_n 1, 1) := by decide +kernel
theorem dX10_stick_28 : decode cX10_stick 28 = .ok (.iload_n 2, 1) := by decide +kernel
theorem dX10_stick_29 : decode cX10_stick 29 = .ok (.iload_n 3, 1) := by decide +kernel
theorem dX10_stick_30 : decode cX10_stick 30 = .ok (.invokevirtual 216, 3) := by decide +kernel
theorem dX10_stick_33 : decode cX10_stick 33 = .ok (.ireturn, 1) := by decide +kernel
theorem dX10_turn_0 : decode cX10_turn 0 = .ok (.iload_n 1, 1) := by decide +kernel
theorem dX10_turn_1 : decode cX10_turn 1 = .ok (.ifCond .lt 9, 3) := by decide +kernel
theorem dX10_turn_4 : decode cX10_turn 4 = .ok (.iload_n 1, 1) := by decide +kernel
theorem dX10_turn_5 : decode cX10_turn 5 = .ok (.bipush 60, 2) := by decide +kernel
theorem dX10_turn_7 : decode cX10_turn 7 = .ok (.if_icmp .le 6, 3) := by decide +kernel
theorem dX10_turn_10 : decode cX10_turn 10 = .ok (.ldc 118, 2) := by decide +kernel
theorem dX10_turn_12 : decode cX10_turn 12 = .ok (.ireturn, 1) := by decide +kernel
theorem dX10_turn_13 : decode cX10_turn 13 = .ok (.iconst 0, 1) := by decide +kernel
theorem dX10_turn_14 : decode cX10_turn 14 = .ok (.istore_n 2, 1) := by decide +kernel
theorem dX10_turn_15 : decode cX10_turn 15 = .ok (.iload_n 2, 1) := by decide +kernel
theorem dX10_turn_16 : decode cX10_turn 16 = .ok (.iload_n 1, 1) := by decide +kernel
theorem dX10_turn_17 : decode cX10_turn 17 = .ok (.if_icmp .ge 16, 3) := by decide +kernel
theorem dX10_turn_20 : decode cX10_turn 20 = .ok (.aload_n 0, 1) := by decide +kernel
theorem dX10_turn_21 : decode cX10_turn 21 = .ok (.getfield 54, 3) := by decide +kernel
theorem dX10_turn_24 : decode cX10_turn 24 = .ok (.invokevirtual 219, 3) := by decide +kernel
theorem dX10_turn_27 : decode cX10_turn 27 = .ok (.iinc 2 1, 3) := by decide +kernel
theorem dX10_turn_30 : decode cX10_turn 30 = .ok (.goto (-15), 3) := by decide +kernel
theorem dX10_turn_33 : decode cX10_turn 33 = .ok (.aload_n 0, 1) := by decide +kernel
theorem dX10_turn_34 : decode cX10_turn 34 = .ok (.getfield 54, 3) := by decide +kernel
theorem dX10_turn_37 : decode cX10_turn 37 = .ok (.iconst 0, 1) := by decide +kernel
theorem dX10_turn_38 : decode cX10_turn 38 = .ok (.invokevirtual 222, 3) := by decide +kernel
theorem dX10_turn_41 : decode cX10_turn 41 = .ok (.i2l, 1) := by decide +kernel
theorem dX10_turn_42 : decode cX10_turn 42 = .ok (.invokestatic 225, 3) := by decide +kernel
theorem dX10_turn_45 : decode cX10_turn 45 = .ok (.ireturn, 1) := by decide +kernel
theorem dX10_column_0 : decode cX10_column 0 = .ok (.iload_n 1, 1) := by decide +kernel
theorem dX10_column_1 : decode cX10_column 1 = .ok (.iconst 5, 1) := by decide +kernel
theorem dX10_column_2 : decode cX10_column 2 = .ok (.if_icmp .ne 11, 3) := by decide +kernel
theorem dX10_column_5 : decode cX10_column 5 = .ok (.aload_n 0, 1) := by decide +kernel
theorem dX10_column_6 : decode cX10_column 6 = .ok (.getfield 54, 3) := by decide +kernel
theorem dX10_column_9 : decode cX10_column 9 = .ok (.getfield 229, 3) := by decide +kernel
theorem dX10_column_12 : decode cX10_column 12 = .ok (.ireturn, 1) := by decide +kernel
theorem dX10_column_13 : decode cX10_column 13 = .ok (.iload_n 1, 1) := by decide +kernel
theorem dX10_column_14 : decode cX10_column 14 = .ok (.bipush 6, 2) := by decide +kernel
theorem dX10_column_16 : decode cX10_column 16 = .ok (.if_icmp .ne 11, 3) := by decide +kernel
theorem dX10_column_19 : decode cX10_column 19 = .ok (.aload_n 0, 1) := by decide +kernel
theorem dX10_column_20 : decode cX10_column 20 = .ok (.getfield 54, 3) := by decide +kernel
theorem dX10_column_23 : decode cX10_column 23 = .ok (.getfield 232, 3) := by decide +kernel
theorem dX10_column_26 : decode cX10_column 26 = .ok (.ireturn, 1) := by decide +kernel
theorem dX10_column_27 : decode cX10_column 27 = .ok (.iload_n 1, 1) := by decide +kernel
theorem dX10_column_28 : decode cX10_column 28 = .ok (.ifCond .lt 9, 3) := by decide +kernel
theorem dX10_column_31 : decode cX10_column 31 = .ok (.iload_n 1, 1) := by decide +kernel
theorem dX10_column_32 : decode cX10_column 32 = .ok (.bipush 6, 2) := by decide +kernel
theorem dX10_column_34 : decode cX10_column 34 = .ok (.if_icmp .le 7, 3) := by decide +kernel
theorem dX10_column_37 : decode cX10_column 37 = .ok (.iconst (-1), 1) := by decide +kernel
theorem dX10_column_38 : decode cX10_column 38 = .ok (.goto 11, 3) := by decide +kernel
theorem dX10_column_41 : decode cX10_column 41 = .ok (.aload_n 0, 1) := by decide +kernel
theorem dX10_column_42 : decode cX10_column 42 = .ok (.getfield 54, 3) := by decide +kernel
theorem dX10_column_45 : decode cX10_column 45 = .ok (.iload_n 1, 1) := by decide +kernel
theorem dX10_column_46 : decode cX10_column 46 = .ok (.invokevirtual 222, 3) := by decide +kernel
theorem dX10_column_49 : decode cX10_column 49 = .ok (.ireturn, 1) := by decide +kernel
theorem dX10_settings_0 : decode cX10_settings 0 = .ok (.aload_n 0, 1) := by decide +kernel
theorem dX10_settings_1 : decode cX10_settings 1 = .ok (.iload_n 1, 1) := by decide +kernel
theorem dX10_settings_2 : decode cX10_settings 2 = .ok (.invokevirtual 159, 3) := by decide +kernel
theorem dX10_settings_5 : decode cX10_settings 5 = .ok (.astore_n 3, 1) := by decide +kernel
theorem dX10_settings_6 : decode cX10_settings 6 = .ok (.aload_n 3, 1) := by decide +kernel
theorem dX10_settings_7 : decode cX10_settings 7 = .ok (.ifnull 13, 3) := by decide +kernel
theorem dX10_settings_10 : decode cX10_settings 10 = .ok (.iload_n 2, 1) := by decide +kernel
theorem dX10_settings_11 : decode cX10_settings 11 = .ok (.ifCond .lt 9, 3) := by decide +kernel
theorem dX10_settings_14 : decode cX10_settings 14 = .ok (.iload_n 2, 1) := by decide +kernel
theorem dX10_settings_15 : decode cX10_settings 15 = .ok (.bipush 99, 2) := by decide +kernel
theorem dX10_settings_17 : decode cX10_settings 17 = .ok (.if_icmp .le 5, 3) := by decide +kernel
theorem dX10_settings_20 : decode cX10_settings 20 = .ok (.iconst (-1), 1) := by decide +kernel
theorem dX10_settings_21 : decode cX10_settings 21 = .ok (.ireturn, 1) := by decide +kernel
theorem dX10_settings_22 : decode cX10_settings 22 = .ok (.aload_n 0, 1) := by decide +kernel
theorem dX10_settings_23 : decode cX10_settings 23 = .ok (.getfield 61, 3) := by decide +kernel
theorem dX10_settings_26 : decode cX10_settings 26 = .ok (.aload_n 3, 1) := by decide +kernel
theorem dX10_settings_27 : decode cX10_settings 27 = .ok (.iload_n 2, 1) := by decide +kernel
theorem dX10_settings_28 : decode cX10_settings 28 = .ok (.invokevirtual 235, 3) := by decide +kernel
theorem dX10_settings_31 : decode cX10_settings 31 = .ok (.ireturn, 1) := by decide +kernel
theorem dX10_row_0 : decode cX10_row 0 = .ok (.aload_n 0, 1) := by decide +kernel
theorem dX10_row_1 : decode cX10_row 1 = .ok (.getfield 68, 3) := by decide +kernel
theorem dX10_row_4 : decode cX10_row 4 = .ok (.iload_n 1, 1) := by decide +kernel
theorem dX10_row_5 : decode cX10_row 5 = .ok (.invokevirtual 239, 3) := by decide +kernel
theorem dX10_row_8 : decode cX10_row 8 = .ok (.ifCond .eq 13, 3) := by decide +kernel
theorem dX10_row_11 : decode cX10_row 11 = .ok (.aload_n 0, 1) := by decide +kernel
theorem dX10_row_12 : decode cX10_row 12 = .ok (.getfield 68, 3) := by decide +kernel
theorem dX10_row_15 : decode cX10_row 15 = .ok (.getfield 243, 3) := by decide +kernel
theorem dX10_row_18 : decode cX10_row 18 = .ok (.goto 4, 3) := by decide +kernel
theorem dX10_row_21 : decode cX10_row 21 = .ok (.iconst (-1), 1) := by decide +kernel
theorem dX10_row_22 : decode cX10_row 22 = .ok (.ireturn, 1) := by decide +kernel
theorem dX10_lay_0 : decode cX10_lay 0 = .ok (.aload_n 0, 1) := by decide +kernel
theorem dX10_lay_1 : decode cX10_lay 1 = .ok (.iload_n 1, 1) := by decide +kernel
theorem dX10_lay_2 : decode cX10_lay 2 = .ok (.invokevirtual 159, 3) := by decide +kernel
theorem dX10_lay_5 : decode cX10_lay 5 = .ok (.astore 4, 2) := by decide +kernel
theorem dX10_lay_7 : decode cX10_lay 7 = .ok (.aload 4, 2) := by decide +kernel
theorem dX10_lay_9 : decode cX10_lay 9 = .ok (.ifnull 14, 3) := by decide +kernel
theorem dX10_lay_12 : decode cX10_lay 12 = .ok (.iload_n 3, 1) := by decide +kernel
theorem dX10_lay_13 : decode cX10_lay 13 = .ok (.iconst 1, 1) := by decide +kernel
theorem dX10_lay_14 : decode cX10_lay 14 = .ok (.if_icmp .lt 9, 3) := by decide +kernel
theorem dX10_lay_17 : decode cX10_lay 17 = .ok (.iload_n 3, 1) := by decide +kernel
theorem dX10_lay_18 : decode cX10_lay 18 = .ok (.bipush 20, 2) := by decide +kernel
theorem dX10_lay_20 : decode cX10_lay 20 = .ok (.if_icmp .le 5, 3) := by decide +kernel
theorem dX10_lay_23 : decode cX10_lay 23 = .ok (.iconst (-1), 1) := by decide +kernel
theorem dX10_lay_24 : decode cX10_lay 24 = .ok (.ireturn, 1) := by decide +kernel
theorem dX10_lay_25 : decode cX10_lay 25 = .ok (.iload_n 2, 1) := by decide +kernel
theorem dX10_lay_26 : decode cX10_lay 26 = .ok (.ifCond .lt 14, 3) := by decide +kernel
theorem dX10_lay_29 : decode cX10_lay 29 = .ok (.iload_n 2, 1) := by decide +kernel
theorem dX10_lay_30 : decode cX10_lay 30 = .ok (.aload 4, 2) := by decide +kernel
theorem dX10_lay_32 : decode cX10_lay 32 = .ok (.getfield 149, 3) := by decide +kernel
theorem dX10_lay_35 : decode cX10_lay 35 = .ok (.iload_n 3, 1) := by decide +kernel
theorem dX10_lay_36 : decode cX10_lay 36 = .ok (.isub, 1) := by decide +kernel
theorem dX10_lay_37 : decode cX10_lay 37 = .ok (.if_icmp .le 5, 3) := by decide +kernel
theorem dX10_lay_40 : decode cX10_lay 40 = .ok (.iconst (-1), 1) := by decide +kernel
theorem dX10_lay_41 : decode cX10_lay 41 = .ok (.ireturn, 1) := by decide +kernel
theorem dX10_lay_42 : decode cX10_lay 42 = .ok (.aload_n 0, 1) := by decide +kernel
theorem dX10_lay_43 : decode cX10_lay 43 = .ok (.getfield 68, 3) := by decide +kernel
theorem dX10_lay_46 : decode cX10_lay 46 = .ok (.aload 4, 2) := by decide +kernel
theorem dX10_lay_48 : decode cX10_lay 48 = .ok (.iload_n 2, 1) := by decide +kernel
theorem dX10_lay_49 : decode cX10_lay 49 = .ok (.iload_n 3, 1) := by decide +kernel
theorem dX10_lay_50 : decode cX10_lay 50 = .ok (.invokevirtual 244, 3) := by decide +kernel
theorem dX10_lay_53 : decode cX10_lay 53 = .ok (.ireturn, 1) := by decide +kernel
theorem dX10_clear_0 : decode cX10_clear 0 = .ok (.aload_n 0, 1) := by decide +kernel
theorem dX10_clear_1 : decode cX10_clear 1 = .ok (.getfield 68, 3) := by decide +kernel
theorem dX10_clear_4 : decode cX10_clear 4 = .ok (.getfield 243, 3) := by decide +kernel
theorem dX10_clear_7 : decode cX10_clear 7 = .ok (.istore_n 1, 1) := by decide +kernel
theorem dX10_clear_8 : decode cX10_clear 8 = .ok (.aload_n 0, 1) := by decide +kernel
theorem dX10_clear_9 : decode cX10_clear 9 = .ok (.getfield 68, 3) := by decide +kernel
theorem dX10_clear_12 : decode cX10_clear 12 = .ok (.iconst 0, 1) := by decide +kernel
theorem dX10_clear_13 : decode cX10_clear 13 = .ok (.putfield 243, 3) := by decide +kernel
theorem dX10_clear_16 : decode cX10_clear 16 = .ok (.iload_n 1, 1) := by decide +kernel
theorem dX10_clear_17 : decode cX10_clear 17 = .ok (.ireturn, 1) := by decide +kernel
theorem dX10_suspects_0 : decode cX10_suspects 0 = .ok (.aload_n 0, 1) := by decide +kernel
theorem dX10_suspects_1 : decode cX10_suspects 1 = .ok (.getfield 68, 3) := by decide +kernel
theorem dX10_suspects_4 : decode cX10_suspects 4 = .ok (.iload_n 1, 1) := by decide +kernel
theorem dX10_suspects_5 : decode cX10_suspects 5 = .ok (.iload_n 2, 1) := by decide +kernel
theorem dX10_suspects_6 : decode cX10_suspects 6 = .ok (.iconst 0, 1) := by decide +kernel
theorem dX10_suspects_7 : decode cX10_suspects 7 = .ok (.invokevirtual 248, 3) := by decide +kernel
theorem dX10_suspects_10 : decode cX10_suspects 10 = .ok (.ifCond .eq 13, 3) := by decide +kernel
theorem dX10_suspects_13 : decode cX10_suspects 13 = .ok (.aload_n 0, 1) := by decide +kernel
theorem dX10_suspects_14 : decode cX10_suspects 14 = .ok (.getfield 68, 3) := by decide +kernel
theorem dX10_suspects_17 : decode cX10_suspects 17 = .ok (.getfield 252, 3) := by decide +kernel
theorem dX10_suspects_20 : decode cX10_suspects 20 = .ok (.goto 4, 3) := by decide +kernel
theorem dX10_suspects_23 : decode cX10_suspects 23 = .ok (.iconst (-1), 1) := by decide +kernel
theorem dX10_suspects_24 : decode cX10_suspects 24 = .ok (.ireturn, 1) := by decide +kernel
theorem dX10_rivals_0 : decode cX10_rivals 0 = .ok (.aload_n 0, 1) := by decide +kernel
theorem dX10_rivals_1 : decode cX10_rivals 1 = .ok (.getfield 68, 3) := by decide +kernel
theorem dX10_rivals_4 : decode cX10_rivals 4 = .ok (.iload_n 1, 1) := by decide +kernel
theorem dX10_rivals_5 : decode cX10_rivals 5 = .ok (.iload_n 2, 1) := by decide +kernel
theorem dX10_rivals_6 : decode cX10_rivals 6 = .ok (.iconst 1, 1) := by decide +kernel
theorem dX10_rivals_7 : decode cX10_rivals 7 = .ok (.invokevirtual 248, 3) := by decide +kernel
theorem dX10_rivals_10 : decode cX10_rivals 10 = .ok (.ifCond .eq 15, 3) := by decide +kernel
theorem dX10_rivals_13 : decode cX10_rivals 13 = .ok (.aload_n 0, 1) := by decide +kernel
theorem dX10_rivals_14 : decode cX10_rivals 14 = .ok (.getfield 68, 3) := by decide +kernel
theorem dX10_rivals_17 : decode cX10_rivals 17 = .ok (.getfield 255, 3) := by decide +kernel
theorem dX10_rivals_20 : decode cX10_rivals 20 = .ok (.iconst 1, 1) := by decide +kernel
theorem dX10_rivals_21 : decode cX10_rivals 21 = .ok (.isub, 1) := by decide +kernel
theorem dX10_rivals_22 : decode cX10_rivals 22 = .ok (.goto 4, 3) := by decide +kernel
theorem dX10_rivals_25 : decode cX10_rivals 25 = .ok (.iconst (-1), 1) := by decide +kernel
theorem dX10_rivals_26 : decode cX10_rivals 26 = .ok (.ireturn, 1) := by decide +kernel
theorem dX10_middle_0 : decode cX10_middle 0 = .ok (.aload_n 0, 1) := by decide +kernel
theorem dX10_middle_1 : decode cX10_middle 1 = .ok (.getfield 68, 3) := by decide +kernel
theorem dX10_middle_4 : decode cX10_middle 4 = .ok (.iload_n 1, 1) := by decide +kernel
theorem dX10_middle_5 : decode cX10_middle 5 = .ok (.iload_n 2, 1) := by decide +kernel
theorem dX10_middle_6 : decode cX10_middle 6 = .ok (.iload_n 3, 1) := by decide +kernel
theorem dX10_middle_7 : decode cX10_middle 7 = .ok (.invokevirtual 258, 3) := by decide +kernel
theorem dX10_middle_10 : decode cX10_middle 10 = .ok (.ireturn, 1) := by decide +kernel
theorem dX10_bound_0 : decode cX10_bound 0 = .ok (.aload_n 0, 1) := by decide +kernel
theorem dX10_bound_1 : decode cX10_bound 1 = .ok (.getfield 68, 3) := by decide +kernel
theorem dX10_bound_4 : decode cX10_bound 4 = .ok (.iload_n 1, 1) := by decide +kernel
theorem dX10_bound_5 : decode cX10_bound 5 = .ok (.invokevirtual 261, 3) := by decide +kernel
theorem dX10_bound_8 : decode cX10_bound 8 = .ok (.ireturn, 1) := by decide +kernel
theorem dX10_set_0 : decode cX10_set 0 = .ok (.aload_n 0, 1) := by decide +kernel
theorem dX10_set_1 : decode cX10_set 1 = .ok (.iload_n 1, 1) := by decide +kernel
theorem dX10_set_2 : decode cX10_set 2 = .ok (.invokevirtual 159, 3) := by decide +kernel
theorem dX10_set_5 : decode cX10_set 5 = .ok (.astore_n 2, 1) := by decide +kernel
theorem dX10_set_6 : decode cX10_set 6 = .ok (.aload_n 2, 1) := by decide +kernel
theorem dX10_set_7 : decode cX10_set 7 = .ok (.ifnull 17, 3) := by decide +kernel
theorem dX10_set_10 : decode cX10_set 10 = .ok (.aload_n 2, 1) := by decide +kernel
theorem dX10_set_11 : decode cX10_set 11 = .ok (.getfield 264, 3) := by decide +kernel
theorem dX10_set_14 : decode cX10_set 14 = .ok (.ifCond .ne 10, 3) := by decide +kernel
theorem dX10_set_17 : decode cX10_set 17 = .ok (.aload_n 2, 1) := by decide +kernel
theorem dX10_set_18 : decode cX10_set 18 = .ok (.invokevirtual 268, 3) := by decide +kernel
theorem dX10_set_21 : decode cX10_set 21 = .ok (.ifCond .ne 5, 3) := by decide +kernel
theorem dX10_set_24 : decode cX10_set 24 = .ok (.iconst (-1), 1) := by decide +kernel
theorem dX10_set_25 : decode cX10_set 25 = .ok (.ireturn, 1) := by decide +kernel
theorem dX10_set_26 : decode cX10_set 26 = .ok (.aload_n 2, 1) := by decide +kernel
theorem dX10_set_27 : decode cX10_set 27 = .ok (.iconst 1, 1) := by decide +kernel
theorem dX10_set_28 : decode cX10_set 28 = .ok (.putfield 264, 3) := by decide +kernel
theorem dX10_set_31 : decode cX10_set 31 = .ok (.aload_n 2, 1) := by decide +kernel
theorem dX10_set_32 : decode cX10_set 32 = .ok (.invokevirtual 271, 3) := by decide +kernel
theorem dX10_set_35 : decode cX10_set 35 = .ok (.ireturn, 1) := by decide +kernel
theorem dX10_hard_0 : decode cX10_hard 0 = .ok (.iload_n 1, 1) := by decide +kernel
theorem dX10_hard_1 : decode cX10_hard 1 = .ok (.bipush 100, 2) := by decide +kernel
theorem dX10_hard_3 : decode cX10_hard 3 = .ok (.if_icmp .lt 10, 3) := by decide +kernel
theorem dX10_hard_6 : decode cX10_hard 6 = .ok (.iload_n 1, 1) := by decide +kernel
theorem dX10_hard_7 : decode cX10_hard 7 = .ok (.sipush 5000, 3) := by decide +kernel
theorem dX10_hard_10 : decode cX10_hard 10 = .ok (.if_icmp .le 5, 3) := by decide +kernel
theorem dX10_hard_13 : decode cX10_hard 13 = .ok (.iconst 0, 1) := by decide +kernel
theorem dX10_hard_14 : decode cX10_hard 14 = .ok (.ireturn, 1) := by decide +kernel
theorem dX10_hard_15 : decode cX10_hard 15 = .ok (.aload_n 0, 1) := by decide +kernel
theorem dX10_hard_16 : decode cX10_hard 16 = .ok (.iload_n 1, 1) := by decide +kernel
theorem dX10_hard_17 : decode cX10_hard 17 = .ok (.putfield 79, 3) := by decide +kernel
theorem dX10_hard_20 : decode cX10_hard 20 = .ok (.iconst 1, 1) := by decide +kernel
theorem dX10_hard_21 : decode cX10_hard 21 = .ok (.ireturn, 1) := by decide +kernel
theorem dX10_print_0 : decode cX10_print 0 = .ok (.aload_n 0, 1) := by decide +kernel
theorem dX10_print_1 : decode cX10_print 1 = .ok (.iload_n 1, 1) := by decide +kernel
theorem dX10_print_2 : decode cX10_print 2 = .ok (.invokevirtual 274, 3) := by decide +kernel
theorem dX10_print_5 : decode cX10_print 5 = .ok (.astore_n 3, 1) := by decide +kernel
theorem dX10_print_6 : decode cX10_print 6 = .ok (.aload_n 3, 1) := by decide +kernel
theorem dX10_print_7 : decode cX10_print 7 = .ok (.ifnull 27, 3) := by decide +kernel
theorem dX10_print_10 : decode cX10_print 10 = .ok (.iload_n 2, 1) := by decide +kernel
theorem dX10_print_11 : decode cX10_print 11 = .ok (.iconst 1, 1) := by decide +kernel
theorem dX10_print_12 : decode cX10_print 12 = .ok (.if_icmp .lt 22, 3) := by decide +kernel
theorem dX10_print_15 : decode cX10_print 15 = .ok (.iload_n 2, 1) := by decide +kernel
theorem dX10_print_16 : decode cX10_print 16 = .ok (.sipush 5000, 3) := by decide +kernel
theorem dX10_print_19 : decode cX10_print 19 = .ok (.if_icmp .gt 15, 3) := by decide +kernel
theorem dX10_print_22 : decode cX10_print 22 = .ok (.aload_n 3, 1) := by decide +kernel
theorem dX10_print_23 : decode cX10_print 23 = .ok (.getfield 277, 3) := by decide +kernel
theorem dX10_print_26 : decode cX10_print 26 = .ok (.ldc_w 280, 3) := by decide +kernel
theorem dX10_print_29 : decode cX10_print 29 = .ok (.iload_n 2, 1) := by decide +kernel
theorem dX10_print_30 : decode cX10_print 30 = .ok (.isub, 1) := by decide +kernel
theorem dX10_print_31 : decode cX10_print 31 = .ok (.if_icmp .le 5, 3) := by decide +kernel
theorem dX10_print_34 : decode cX10_print 34 = .ok (.iconst (-1), 1) := by decide +kernel
theorem dX10_print_35 : decode cX10_print 35 = .ok (.ireturn, 1) := by decide +kernel
theorem dX10_print_36 : decode cX10_print 36 = .ok (.aload_n 3, 1) := by decide +kernel
theorem dX10_print_37 : decode cX10_print 37 = .ok (.iload_n 2, 1) := by decide +kernel
theorem dX10_print_38 : decode cX10_print 38 = .ok (.aload_n 0, 1) := by decide +kernel
theorem dX10_print_39 : decode cX10_print 39 = .ok (.getfield 79, 3) := by decide +kernel
theorem dX10_print_42 : decode cX10_print 42 = .ok (.invokevirtual 281, 3) := by decide +kernel
theorem dX10_print_45 : decode cX10_print 45 = .ok (.aload_n 3, 1) := by decide +kernel
theorem dX10_print_46 : decode cX10_print 46 = .ok (.getfield 277, 3) := by decide +kernel
theorem dX10_print_49 : decode cX10_print 49 = .ok (.ireturn, 1) := by decide +kernel
theorem dX10_mend_0 : decode cX10_mend 0 = .ok (.aload_n 0, 1) := by decide +kernel
theorem dX10_mend_1 : decode cX10_mend 1 = .ok (.iload_n 1, 1) := by decide +kernel
theorem dX10_mend_2 : decode cX10_mend 2 = .ok (.invokevirtual 274, 3) := by decide +kernel
theorem dX10_mend_5 : decode cX10_mend 5 = .ok (.astore_n 3, 1) := by decide +kernel
theorem dX10_mend_6 : decode cX10_mend 6 = .ok (.aload_n 3, 1) := by decide +kernel
theorem dX10_mend_7 : decode cX10_mend 7 = .ok (.ifnull 11, 3) := by decide +kernel
theorem dX10_mend_10 : decode cX10_mend 10 = .ok (.aload_n 3, 1) := by decide +kernel
theorem dX10_mend_11 : decode cX10_mend 11 = .ok (.iload_n 2, 1) := by decide +kernel
theorem dX10_mend_12 : decode cX10_mend 12 = .ok (.invokevirtual 285, 3) := by decide +kernel
theorem dX10_mend_15 : decode cX10_mend 15 = .ok (.ifCond .ne 5, 3) := by decide +kernel
theorem dX10_mend_18 : decode cX10_mend 18 = .ok (.iconst 0, 1) := by decide +kernel
theorem dX10_mend_19 : decode cX10_mend 19 = .ok (.ireturn, 1) := by decide +kernel
theorem dX10_mend_20 : decode cX10_mend 20 = .ok (.aload_n 3, 1) := by decide +kernel
theorem dX10_mend_21 : decode cX10_mend 21 = .ok (.getfield 288, 3) := by decide +kernel
theorem dX10_mend_24 : decode cX10_mend 24 = .ok (.iload_n 2, 1) := by decide +kernel
theorem dX10_mend_25 : decode cX10_mend 25 = .ok (.iconst 0, 1) := by decide +kernel
theorem dX10_mend_26 : decode cX10_mend 26 = .ok (.iastore, 1) := by decide +kernel
theorem dX10_mend_27 : decode cX10_mend 27 = .ok (.iconst 1, 1) := by decide +kernel
theorem dX10_mend_28 : decode cX10_mend 28 = .ok (.ireturn, 1) := by decide +kernel
theorem dX10_read_0 : decode cX10_read 0 = .ok (.aload_n 0, 1) := by decide +kernel
theorem dX10_read_1 : decode cX10_read 1 = .ok (.iload_n 1, 1) := by decide +kernel
theorem dX10_read_2 : decode cX10_read 2 = .ok (.invokevirtual 274, 3) := by decide +kernel
theorem dX10_read_5 : decode cX10_read 5 = .ok (.astore_n 3, 1) := by decide +kernel
theorem dX10_read_6 : decode cX10_read 6 = .ok (.aload_n 3, 1) := by decide +kernel
theorem dX10_read_7 : decode cX10_read 7 = .ok (.ifnonnull 8, 3) := by decide +kernel
theorem dX10_read_10 : decode cX10_read 10 = .ok (.ldc 118, 2) := by decide +kernel
theorem dX10_read_12 : decode cX10_read 12 = .ok (.goto 8, 3) := by decide +kernel
theorem dX10_read_15 : decode cX10_read 15 = .ok (.aload_n 3, 1) := by decide +kernel
theorem dX10_read_16 : decode cX10_read 16 = .ok (.iload_n 2, 1) := by decide +kernel
theorem dX10_read_17 : decode cX10_read 17 = .ok (.invokevirtual 291, 3) := by decide +kernel
theorem dX10_read_20 : decode cX10_read 20 = .ok (.ireturn, 1) := by decide +kernel
theorem dX10_erratum_0 : decode cX10_erratum 0 = .ok (.aload_n 0, 1) := by decide +kernel
theorem dX10_erratum_1 : decode cX10_erratum 1 = .ok (.iload_n 1, 1) := by decide +kernel
theorem dX10_erratum_2 : decode cX10_erratum 2 = .ok (.invokevirtual 274, 3) := by decide +kernel
theorem dX10_erratum_5 : decode cX10_erratum 5 = .ok (.astore 5, 2) := by decide +kernel
theorem dX10_erratum_7 : decode cX10_erratum 7 = .ok (.aload 5, 2) := by decide +kernel
theorem dX10_erratum_9 : decode cX10_erratum 9 = .ok (.ifnull 27, 3) := by decide +kernel
theorem dX10_erratum_12 : decode cX10_erratum 12 = .ok (.aload 5, 2) := by decide +kernel
theorem dX10_erratum_14 : decode cX10_erratum 14 = .ok (.iload_n 2, 1) := by decide +kernel
theorem dX10_erratum_15 : decode cX10_erratum 15 = .ok (.invokevirtual 285, 3) := by decide +kernel
theorem dX10_erratum_18 : decode cX10_erratum 18 = .ok (.ifCond .eq 18, 3) := by decide +kernel
theorem dX10_erratum_21 : decode cX10_erratum 21 = .ok (.iload_n 3, 1) := by decide +kernel
theorem dX10_erratum_22 : decode cX10_erratum 22 = .ok (.invokestatic 294, 3) := by decide +kernel
theorem dX10_erratum_25 : decode cX10_erratum 25 = .ok (.ifCond .eq 11, 3) := by decide +kernel
theorem dX10_erratum_28 : decode cX10_erratum 28 = .ok (.iload 4, 2) := by decide +kernel
theorem dX10_erratum_30 : decode cX10_erratum 30 = .ok (.invokestatic 294, 3) := by decide +kernel
theorem dX10_erratum_33 : decode cX10_erratum 33 = .ok (.ifCond .ne 5, 3) := by decide +kernel
theorem dX10_erratum_36 : decode cX10_erratum 36 = .ok (.iconst (-1), 1) := by decide +kernel
theorem dX10_erratum_37 : decode cX10_erratum 37 = .ok (.ireturn, 1) := by decide +kernel
theorem dX10_erratum_38 : decode cX10_erratum 38 = .ok (.aload_n 0, 1) := by decide +kernel
theorem dX10_erratum_39 : decode cX10_erratum 39 = .ok (.getfield 75, 3) := by decide +kernel
theorem dX10_erratum_42 : decode cX10_erratum 42 = .ok (.iload_n 1, 1) := by decide +kernel
theorem dX10_erratum_43 : decode cX10_erratum 43 = .ok (.iload_n 2, 1) := by decide +kernel
theorem dX10_erratum_44 : decode cX10_erratum 44 = .ok (.iload_n 3, 1) := by decide +kernel
theorem dX10_erratum_45 : decode cX10_erratum 45 = .ok (.iload 4, 2) := by decide +kernel
theorem dX10_erratum_47 : decode cX10_erratum 47 = .ok (.aload_n 0, 1) := by decide +kernel
theorem dX10_erratum_48 : decode cX10_erratum 48 = .ok (.getfield 135, 3) := by decide +kernel
theorem dX10_erratum_51 : decode cX10_erratum 51 = .ok (.invokevirtual 297, 3) := by decide +kernel
theorem dX10_erratum_54 : decode cX10_erratum 54 = .ok (.ireturn, 1) := by decide +kernel
theorem dX10_misses_0 : decode cX10_misses 0 = .ok (.aload_n 0, 1) := by decide +kernel
theorem dX10_misses_1 : decode cX10_misses 1 = .ok (.getfield 75, 3) := by decide +kernel
theorem dX10_misses_4 : decode cX10_misses 4 = .ok (.iload_n 1, 1) := by decide +kernel
theorem dX10_misses_5 : decode cX10_misses 5 = .ok (.invokevirtual 300, 3) := by decide +kernel
theorem dX10_misses_8 : decode cX10_misses 8 = .ok (.ifCond .ne 5, 3) := by decide +kernel
theorem dX10_misses_11 : decode cX10_misses 11 = .ok (.iconst (-1), 1) := by decide +kernel
theorem dX10_misses_12 : decode cX10_misses 12 = .ok (.ireturn, 1) := by decide +kernel
theorem dX10_misses_13 : decode cX10_misses 13 = .ok (.aload_n 0, 1) := by decide +kernel
theorem dX10_misses_14 : decode cX10_misses 14 = .ok (.getfield 75, 3) := by decide +kernel
theorem dX10_misses_17 : decode cX10_misses 17 = .ok (.getfield 302, 3) := by decide +kernel
theorem dX10_misses_20 : decode cX10_misses 20 = .ok (.iload_n 1, 1) := by decide +kernel
theorem dX10_misses_21 : decode cX10_misses 21 = .ok (.iaload, 1) := by decide +kernel
theorem dX10_misses_22 : decode cX10_misses 22 = .ok (.istore_n 2, 1) := by decide +kernel
theorem dX10_misses_23 : decode cX10_misses 23 = .ok (.aload_n 0, 1) := by decide +kernel
theorem dX10_misses_24 : decode cX10_misses 24 = .ok (.getfield 75, 3) := by decide +kernel
theorem dX10_misses_27 : decode cX10_misses 27 = .ok (.getfield 305, 3) := by decide +kernel
theorem dX10_misses_30 : decode cX10_misses 30 = .ok (.iload_n 1, 1) := by decide +kernel
theorem dX10_misses_31 : decode cX10_misses 31 = .ok (.iaload, 1) := by decide +kernel
theorem dX10_misses_32 : decode cX10_misses 32 = .ok (.istore_n 3, 1) := by decide +kernel
theorem dX10_misses_33 : decode cX10_misses 33 = .ok (.aload_n 0, 1) := by decide +kernel
theorem dX10_misses_34 : decode cX10_misses 34 = .ok (.iload_n 2, 1) := by decide +kernel
theorem dX10_misses_35 : decode cX10_misses 35 = .ok (.invokevirtual 159, 3) := by decide +kernel
theorem dX10_misses_38 : decode cX10_misses 38 = .ok (.astore 4, 2) := by decide +kernel
theorem dX10_misses_40 : decode cX10_misses 40 = .ok (.aload 4, 2) := by decide +kernel
theorem dX10_misses_42 : decode cX10_misses 42 = .ok (.ifnonnull 5, 3) := by decide +kernel
theorem dX10_misses_45 : decode cX10_misses 45 = .ok (.iconst (-1), 1) := by decide +kernel
theorem dX10_misses_46 : decode cX10_misses 46 = .ok (.ireturn, 1) := by decide +kernel
theorem dX10_misses_47 : decode cX10_misses 47 = .ok (.aload_n 0, 1) := by decide +kernel
theorem dX10_misses_48 : decode cX10_misses 48 = .ok (.getfield 75, 3) := by decide +kernel
theorem dX10_misses_51 : decode cX10_misses 51 = .ok (.iload_n 2, 1) := by decide +kernel
theorem dX10_misses_52 : decode cX10_misses 52 = .ok (.iload_n 3, 1) := by decide +kernel
theorem dX10_misses_53 : decode cX10_misses 53 = .ok (.aload 4, 2) := by decide +kernel
theorem dX10_misses_55 : decode cX10_misses 55 = .ok (.iload_n 3, 1) := by decide +kernel
theorem dX10_misses_56 : decode cX10_misses 56 = .ok (.invokevirtual 191, 3) := by decide +kernel
theorem dX10_misses_59 : decode cX10_misses 59 = .ok (.iload_n 1, 1) := by decide +kernel
theorem dX10_misses_60 : decode cX10_misses 60 = .ok (.sipush 999, 3) := by decide +kernel
theorem dX10_misses_63 : decode cX10_misses 63 = .ok (.invokevirtual 308, 3) := by decide +kernel
theorem dX10_misses_66 : decode cX10_misses 66 = .ok (.istore 5, 2) := by decide +kernel
theorem dX10_misses_68 : decode cX10_misses 68 = .ok (.iload 5, 2) := by decide +kernel
theorem dX10_misses_70 : decode cX10_misses 70 = .ok (.aload_n 0, 1) := by decide +kernel
theorem dX10_misses_71 : decode cX10_misses 71 = .ok (.getfield 75, 3) := by decide +kernel
theorem dX10_misses_74 : decode cX10_misses 74 = .ok (.getfield 311, 3) := by decide +kernel
theorem dX10_misses_77 : decode cX10_misses 77 = .ok (.iload_n 1, 1) := by decide +kernel
theorem dX10_misses_78 : decode cX10_misses 78 = .ok (.iaload, 1) := by decide +kernel
theorem dX10_misses_79 : decode cX10_misses 79 = .ok (.if_icmp .ne 7, 3) := by decide +kernel
theorem dX10_misses_82 : decode cX10_misses 82 = .ok (.iconst 0, 1) := by decide +kernel
theorem dX10_misses_83 : decode cX10_misses 83 = .ok (.goto 4, 3) := by decide +kernel
theorem dX10_misses_86 : decode cX10_misses 86 = .ok (.iconst 1, 1) := by decide +kernel
theorem dX10_misses_87 : decode cX10_misses 87 = .ok (.ireturn, 1) := by decide +kernel
theorem dX10_known_0 : decode cX10_known 0 = .ok (.aload_n 0, 1) := by decide +kernel
theorem dX10_known_1 : decode cX10_known 1 = .ok (.iload_n 1, 1) := by decide +kernel
theorem dX10_known_2 : decode cX10_known 2 = .ok (.invokevirtual 274, 3) := by decide +kernel
theorem dX10_known_5 : decode cX10_known 5 = .ok (.astore 4, 2) := by decide +kernel
theorem dX10_known_7 : decode cX10_known 7 = .ok (.aload 4, 2) := by decide +kernel
theorem dX10_known_9 : decode cX10_known 9 = .ok (.ifnull 23, 3) := by decide +kernel
theorem dX10_known_12 : decode cX10_known 12 = .ok (.aload 4, 2) := by decide +kernel
theorem dX10_known_14 : decode cX10_known 14 = .ok (.iload_n 2, 1) := by decide +kernel
theorem dX10_known_15 : decode cX10_known 15 = .ok (.invokevirtual 285, 3) := by decide +kernel
theorem dX10_known_18 : decode cX10_known 18 = .ok (.ifCond .eq 14, 3) := by decide +kernel
theorem dX10_known_21 : decode cX10_known 21 = .ok (.iload_n 3, 1) := by decide +kernel
theorem dX10_known_22 : decode cX10_known 22 = .ok (.ifCond .lt 10, 3) := by decide +kernel
theorem dX10_known_25 : decode cX10_known 25 = .ok (.iload_n 3, 1) := by decide +kernel
theorem dX10_known_26 : decode cX10_known 26 = .ok (.sipush 999, 3) := by decide +kernel
theorem dX10_known_29 : decode cX10_known 29 = .ok (.if_icmp .le 6, 3) := by decide +kernel
theorem dX10_known_32 : decode cX10_known 32 = .ok (.ldc 118, 2) := by decide +kernel
theorem dX10_known_34 : decode cX10_known 34 = .ok (.ireturn, 1) := by decide +kernel
theorem dX10_known_35 : decode cX10_known 35 = .ok (.aload_n 0, 1) := by decide +kernel
theorem dX10_known_36 : decode cX10_known 36 = .ok (.getfield 75, 3) := by decide +kernel
theorem dX10_known_39 : decode cX10_known 39 = .ok (.iload_n 1, 1) := by decide +kernel
theorem dX10_known_40 : decode cX10_known 40 = .ok (.iload_n 2, 1) := by decide +kernel
theorem dX10_known_41 : decode cX10_known 41 = .ok (.aload 4, 2) := by decide +kernel
theorem dX10_known_43 : decode cX10_known 43 = .ok (.iload_n 2, 1) := by decide +kernel
theorem dX10_known_44 : decode cX10_known 44 = .ok (.invokevirtual 191, 3) := by decide +kernel
theorem dX10_known_47 : decode cX10_known 47 = .ok (.aload_n 0, 1) := by decide +kernel
theorem dX10_known_48 : decode cX10_known 48 = .ok (.getfield 75, 3) := by decide +kernel
theorem dX10_known_51 : decode cX10_known 51 = .ok (.getfield 314, 3) := by decide +kernel
theorem dX10_known_54 : decode cX10_known 54 = .ok (.iload_n 3, 1) := by decide +kernel
theorem dX10_known_55 : decode cX10_known 55 = .ok (.invokevirtual 308, 3) := by decide +kernel
theorem dX10_known_58 : decode cX10_known 58 = .ok (.ireturn, 1) := by decide +kernel
theorem dX10_rival_0 : decode cX10_rival 0 = .ok (.aload_n 0, 1) := by decide +kernel
theorem dX10_rival_1 : decode cX10_rival 1 = .ok (.iload_n 1, 1) := by decide +kernel
theorem dX10_rival_2 : decode cX10_rival 2 = .ok (.invokevirtual 274, 3) := by decide +kernel
theorem dX10_rival_5 : decode cX10_rival 5 = .ok (.astore 4, 2) := by decide +kernel
theorem dX10_rival_7 : decode cX10_rival 7 = .ok (.aload 4, 2) := by decide +kernel
theorem dX10_rival_9 : decode cX10_rival 9 = .ok (.ifnull 25, 3) := by decide +kernel
theorem dX10_rival_12 : decode cX10_rival 12 = .ok (.aload 4, 2) := by decide +kernel
theorem dX10_rival_14 : decode cX10_rival 14 = .ok (.iload_n 2, 1) := by decide +kernel
theorem dX10_rival_15 : decode cX10_rival 15 = .ok (.invokevirtual 315, 3) := by decide +kernel
theorem dX10_rival_18 : decode cX10_rival 18 = .ok (.ifCond .eq 16, 3) := by decide +kernel
theorem dX10_rival_21 : decode cX10_rival 21 = .ok (.iload_n 3, 1) := by decide +kernel
theorem dX10_rival_22 : decode cX10_rival 22 = .ok (.ldc 118, 2) := by decide +kernel
theorem dX10_rival_24 : decode cX10_rival 24 = .ok (.if_icmp .eq 12, 3) := by decide +kernel
theorem dX10_rival_27 : decode cX10_rival 27 = .ok (.iload_n 3, 1) := by decide +kernel
theorem dX10_rival_28 : decode cX10_rival 28 = .ok (.invokestatic 294, 3) := by decide +kernel
theorem dX10_rival_31 : decode cX10_rival 31 = .ok (.ifCond .ne 5, 3) := by decide +kernel
theorem dX10_rival_34 : decode cX10_rival 34 = .ok (.iconst 0, 1) := by decide +kernel
theorem dX10_rival_35 : decode cX10_rival 35 = .ok (.ireturn, 1) := by decide +kernel
theorem dX10_rival_36 : decode cX10_rival 36 = .ok (.aload 4, 2) := by decide +kernel
theorem dX10_rival_38 : decode cX10_rival 38 = .ok (.getfield 316, 3) := by decide +kernel
theorem dX10_rival_41 : decode cX10_rival 41 = .ok (.iload_n 2, 1) := by decide +kernel
theorem dX10_rival_42 : decode cX10_rival 42 = .ok (.iload_n 3, 1) := by decide +kernel
theorem dX10_rival_43 : decode cX10_rival 43 = .ok (.iastore, 1) := by decide +kernel
theorem dX10_rival_44 : decode cX10_rival 44 = .ok (.iconst 1, 1) := by decide +kernel
theorem dX10_rival_45 : decode cX10_rival 45 = .ok (.ireturn, 1) := by decide +kernel
theorem dX10_shared_0 : decode cX10_shared 0 = .ok (.aload_n 0, 1) := by decide +kernel
theorem dX10_shared_1 : decode cX10_shared 1 = .ok (.iload_n 1, 1) := by decide +kernel
theorem dX10_shared_2 : decode cX10_shared 2 = .ok (.invokevirtual 274, 3) := by decide +kernel
theorem dX10_shared_5 : decode cX10_shared 5 = .ok (.astore_n 2, 1) := by decide +kernel
theorem dX10_shared_6 : decode cX10_shared 6 = .ok (.aload_n 2, 1) := by decide +kernel
theorem dX10_shared_7 : decode cX10_shared 7 = .ok (.ifnonnull 7, 3) := by decide +kernel
theorem dX10_shared_10 : decode cX10_shared 10 = .ok (.iconst (-1), 1) := by decide +kernel
theorem dX10_shared_11 : decode cX10_shared 11 = .ok (.goto 7, 3) := by decide +kernel
theorem dX10_shared_14 : decode cX10_shared 14 = .ok (.aload_n 2, 1) := by decide +kernel
theorem dX10_shared_15 : decode cX10_shared 15 = .ok (.invokevirtual 319, 3) := by decide +kernel
theorem dX10_shared_18 : decode cX10_shared 18 = .ok (.ireturn, 1) := by decide +kernel
theorem dX10_copied_0 : decode cX10_copied 0 = .ok (.aload_n 0, 1) := by decide +kernel
theorem dX10_copied_1 : decode cX10_copied 1 = .ok (.iload_n 1, 1) := by decide +kernel
theorem dX10_copied_2 : decode cX10_copied 2 = .ok (.invokevirtual 274, 3) := by decide +kernel
theorem dX10_copied_5 : decode cX10_copied 5 = .ok (.astore_n 2, 1) := by decide +kernel
theorem dX10_copied_6 : decode cX10_copied 6 = .ok (.aload_n 2, 1) := by decide +kernel
theorem dX10_copied_7 : decode cX10_copied 7 = .ok (.ifnonnull 5, 3) := by decide +kernel
theorem dX10_copied_10 : decode cX10_copied 10 = .ok (.iconst (-1), 1) := by decide +kernel
theorem dX10_copied_11 : decode cX10_copied 11 = .ok (.ireturn, 1) := by decide +kernel
theorem dX10_copied_12 : decode cX10_copied 12 = .ok (.aload_n 2, 1) := by decide +kernel
theorem dX10_copied_13 : decode cX10_copied 13 = .ok (.invokevirtual 322, 3) := by decide +kernel
theorem dX10_copied_16 : decode cX10_copied 16 = .ok (.ifCond .eq 7, 3) := by decide +kernel
theorem dX10_copied_19 : decode cX10_copied 19 = .ok (.iconst 1, 1) := by decide +kernel
theorem dX10_copied_20 : decode cX10_copied 20 = .ok (.goto 4, 3) := by decide +kernel
theorem dX10_copied_23 : decode cX10_copied 23 = .ok (.iconst 0, 1) := by decide +kernel
theorem dX10_copied_24 : decode cX10_copied 24 = .ok (.ireturn, 1) := by decide +kernel
theorem dX10_lead_0 : decode cX10_lead 0 = .ok (.aload_n 0, 1) := by decide +kernel
theorem dX10_lead_1 : decode cX10_lead 1 = .ok (.iload_n 1, 1) := by decide +kernel
theorem dX10_lead_2 : decode cX10_lead 2 = .ok (.invokevirtual 159, 3) := by decide +kernel
theorem dX10_lead_5 : decode cX10_lead 5 = .ok (.astore 4, 2) := by decide +kernel
theorem dX10_lead_7 : decode cX10_lead 7 = .ok (.aload 4, 2) := by decide +kernel
theorem dX10_lead_9 : decode cX10_lead 9 = .ok (.ifnull 12, 3) := by decide +kernel
theorem dX10_lead_12 : decode cX10_lead 12 = .ok (.aload 4, 2) := by decide +kernel
theorem dX10_lead_14 : decode cX10_lead 14 = .ok (.iload_n 2, 1) := by decide +kernel
theorem dX10_lead_15 : decode cX10_lead 15 = .ok (.invokevirtual 315, 3) := by decide +kernel
theorem dX10_lead_18 : decode cX10_lead 18 = .ok (.ifCond .ne 5, 3) := by decide +kernel
theorem dX10_lead_21 : decode cX10_lead 21 = .ok (.iconst (-1), 1) := by decide +kernel
theorem dX10_lead_22 : decode cX10_lead 22 = .ok (.ireturn, 1) := by decide +kernel
theorem dX10_lead_23 : decode cX10_lead 23 = .ok (.iload_n 3, 1) := by decide +kernel
theorem dX10_lead_24 : decode cX10_lead 24 = .ok (.tableswitch 120 0 6 #[44, 52, 60, 68, 76, 84, 91], 44) := by decide +kernel
theorem dX10_lead_68 : decode cX10_lead 68 = .ok (.aload 4, 2) := by decide +kernel
theorem dX10_lead_70 : decode cX10_lead 70 = .ok (.getfield 325, 3) := by decide +kernel
theorem dX10_lead_73 : decode cX10_lead 73 = .ok (.iload_n 2, 1) := by decide +kernel
theorem dX10_lead_74 : decode cX10_lead 74 = .ok (.iaload, 1) := by decide +kernel
theorem dX10_lead_75 : decode cX10_lead 75 = .ok (.ireturn, 1) := by decide +kernel
theorem dX10_lead_76 : decode cX10_lead 76 = .ok (.aload 4, 2) := by decide +kernel
theorem dX10_lead_78 : decode cX10_lead 78 = .ok (.getfield 328, 3) := by decide +kernel
theorem dX10_lead_81 : decode cX10_lead 81 = .ok (.iload_n 2, 1) := by decide +kernel
theorem dX10_lead_82 : decode cX10_lead 82 = .ok (.iaload, 1) := by decide +kernel
theorem dX10_lead_83 : decode cX10_lead 83 = .ok (.ireturn, 1) := by decide +kernel
theorem dX10_lead_84 : decode cX10_lead 84 = .ok (.aload 4, 2) := by decide +kernel
theorem dX10_lead_86 : decode cX10_lead 86 = .ok (.getfield 331, 3) := by decide +kernel
theorem dX10_lead_89 : decode cX10_lead 89 = .ok (.iload_n 2, 1) := by decide +kernel
theorem dX10_lead_90 : decode cX10_lead 90 = .ok (.iaload, 1) := by decide +kernel
theorem dX10_lead_91 : decode cX10_lead 91 = .ok (.ireturn, 1) := by decide +kernel
theorem dX10_lead_92 : decode cX10_lead 92 = .ok (.aload 4, 2) := by decide +kernel
theorem dX10_lead_94 : decode cX10_lead 94 = .ok (.getfield 334, 3) := by decide +kernel
theorem dX10_lead_97 : decode cX10_lead 97 = .ok (.iload_n 2, 1) := by decide +kernel
theorem dX10_lead_98 : decode cX10_lead 98 = .ok (.iaload, 1) := by decide +kernel
theorem dX10_lead_99 : decode cX10_lead 99 = .ok (.ireturn, 1) := by decide +kernel
theorem dX10_lead_100 : decode cX10_lead 100 = .ok (.aload 4, 2) := by decide +kernel
theorem dX10_lead_102 : decode cX10_lead 102 = .ok (.getfield 337, 3) := by decide +kernel
theorem dX10_lead_105 : decode cX10_lead 105 = .ok (.iload_n 2, 1) := by decide +kernel
theorem dX10_lead_106 : decode cX10_lead 106 = .ok (.iaload, 1) := by decide +kernel
theorem dX10_lead_107 : decode cX10_lead 107 = .ok (.ireturn, 1) := by decide +kernel
theorem dX10_lead_108 : decode cX10_lead 108 = .ok (.aload 4, 2) := by decide +kernel
theorem dX10_lead_110 : decode cX10_lead 110 = .ok (.iload_n 2, 1) := by decide +kernel
theorem dX10_lead_111 : decode cX10_lead 111 = .ok (.invokevirtual 340, 3) := by decide +kernel
theorem dX10_lead_114 : decode cX10_lead 114 = .ok (.ireturn, 1) := by decide +kernel
theorem dX10_lead_115 : decode cX10_lead 115 = .ok (.aload 4, 2) := by decide +kernel
theorem dX10_lead_117 : decode cX10_lead 117 = .ok (.getfield 264, 3) := by decide +kernel
theorem dX10_lead_120 : decode cX10_lead 120 = .ok (.ifCond .eq 22, 3) := by decide +kernel
theorem dX10_lead_123 : decode cX10_lead 123 = .ok (.aload 4, 2) := by decide +kernel
theorem dX10_lead_125 : decode cX10_lead 125 = .ok (.iload_n 2, 1) := by decide +kernel
theorem dX10_lead_126 : decode cX10_lead 126 = .ok (.invokevirtual 285, 3) := by decide +kernel
theorem dX10_lead_129 : decode cX10_lead 129 = .ok (.ifCond .eq 13, 3) := by decide +kernel
theorem dX10_lead_132 : decode cX10_lead 132 = .ok (.aload 4, 2) := by decide +kernel
theorem dX10_lead_134 : decode cX10_lead 134 = .ok (.getfield 288, 3) := by decide +kernel
theorem dX10_lead_137 : decode cX10_lead 137 = .ok (.iload_n 2, 1) := by decide +kernel
theorem dX10_lead_138 : decode cX10_lead 138 = .ok (.iaload, 1) := by decide +kernel
theorem dX10_lead_139 : decode cX10_lead 139 = .ok (.goto 4, 3) := by decide +kernel
theorem dX10_lead_142 : decode cX10_lead 142 = .ok (.iconst (-1), 1) := by decide +kernel
theorem dX10_lead_143 : decode cX10_lead 143 = .ok (.ireturn, 1) := by decide +kernel
theorem dX10_lead_144 : decode cX10_lead 144 = .ok (.iconst (-1), 1) := by decide +kernel
theorem dX10_lead_145 : decode cX10_lead 145 = .ok (.ireturn, 1) := by decide +kernel
theorem dX10_count_0 : decode cX10_count 0 = .ok (.iload_n 1, 1) := by decide +kernel
theorem dX10_count_1 : decode cX10_count 1 = .ok (.tableswitch 102 0 7 #[47, 52, 57, 62, 70, 78, 86, 94], 47) := by decide +kernel
theorem dX10_count_48 : decode cX10_count 48 = .ok (.aload_n 0, 1) := by decide +kernel
theorem dX10_count_49 : decode cX10_count 49 = .ok (.getfield 135, 3) := by decide +kernel
theorem dX10_count_52 : decode cX10_count 52 = .ok (.ireturn, 1) := by decide +kernel
theorem dX10_count_53 : decode cX10_count 53 = .ok (.aload_n 0, 1) := by decide +kernel
theorem dX10_count_54 : decode cX10_count 54 = .ok (.getfield 94, 3) := by decide +kernel
theorem dX10_count_57 : decode cX10_count 57 = .ok (.ireturn, 1) := by decide +kernel
theorem dX10_count_58 : decode cX10_count 58 = .ok (.aload_n 0, 1) := by decide +kernel
theorem dX10_count_59 : decode cX10_count 59 = .ok (.getfield 144, 3) := by decide +kernel
theorem dX10_count_62 : decode cX10_count 62 = .ok (.ireturn, 1) := by decide +kernel
theorem dX10_count_63 : decode cX10_count 63 = .ok (.aload_n 0, 1) := by decide +kernel
theorem dX10_count_64 : decode cX10_count 64 = .ok (.getfield 47, 3) := by decide +kernel
theorem dX10_count_67 : decode cX10_count 67 = .ok (.getfield 166, 3) := by decide +kernel
theorem dX10_count_70 : decode cX10_count 70 = .ok (.ireturn, 1) := by decide +kernel
theorem dX10_count_71 : decode cX10_count 71 = .ok (.aload_n 0, 1) := by decide +kernel
theorem dX10_count_72 : decode cX10_count 72 = .ok (.getfield 47, 3) := by decide +kernel
theorem dX10_count_75 : decode cX10_count 75 = .ok (.getfield 177, 3) := by decide +kernel
theorem dX10_count_78 : decode cX10_count 78 = .ok (.ireturn, 1) := by decide +kernel
theorem dX10_count_79 : decode cX10_count 79 = .ok (.aload_n 0, 1) := by decide +kernel
theorem dX10_count_80 : decode cX10_count 80 = .ok (.getfield 68, 3) := by decide +kernel
theorem dX10_count_83 : decode cX10_count 83 = .ok (.getfield 243, 3) := by decide +kernel
theorem dX10_count_86 : decode cX10_count 86 = .ok (.ireturn, 1) := by decide +kernel
theorem dX10_count_87 : decode cX10_count 87 = .ok (.aload_n 0, 1) := by decide +kernel
theorem dX10_count_88 : decode cX10_count 88 = .ok (.getfield 75, 3) := by decide +kernel
theorem dX10_count_91 : decode cX10_count 91 = .ok (.getfield 314, 3) := by decide +kernel
theorem dX10_count_94 : decode cX10_count 94 = .ok (.ireturn, 1) := by decide +kernel
theorem dX10_count_95 : decode cX10_count 95 = .ok (.aload_n 0, 1) := by decide +kernel
theorem dX10_count_96 : decode cX10_count 96 = .ok (.getfield 10, 3) := by decide +kernel
theorem dX10_count_99 : decode cX10_count 99 = .ok (.getfield 83, 3) := by decide +kernel
theorem dX10_count_102 : decode cX10_count 102 = .ok (.ireturn, 1) := by decide +kernel
theorem dX10_count_103 : decode cX10_count 103 = .ok (.aload_n 0, 1) := by decide +kernel
theorem dX10_count_104 : decode cX10_count 104 = .ok (.iload_n 1, 1) := by decide +kernel
theorem dX10_count_105 : decode cX10_count 105 = .ok (.bipush 10, 2) := by decide +kernel
theorem dX10_count_107 : decode cX10_count 107 = .ok (.idiv, 1) := by decide +kernel
theorem dX10_count_108 : decode cX10_count 108 = .ok (.iload_n 1, 1) := by decide +kernel
theorem dX10_count_109 : decode cX10_count 109 = .ok (.bipush 10, 2) := by decide +kernel
theorem dX10_count_111 : decode cX10_count 111 = .ok (.irem, 1) := by decide +kernel
theorem dX10_count_112 : decode cX10_count 112 = .ok (.invokevirtual 343, 3) := by decide +kernel
theorem dX10_count_115 : decode cX10_count 115 = .ok (.ireturn, 1) := by decide +kernel
theorem dX10_countOfTable_0 : decode cX10_countOfTable 0 = .ok (.aload_n 0, 1) := by decide +kernel
theorem dX10_countOfTable_1 : decode cX10_countOfTable 1 = .ok (.iload_n 2, 1) := by decide +kernel
theorem dX10_countOfTable_2 : decode cX10_countOfTable 2 = .ok (.invokevirtual 159, 3) := by decide +kernel
theorem dX10_countOfTable_5 : decode cX10_countOfTable 5 = .ok (.astore_n 3, 1) := by decide +kernel
theorem dX10_countOfTable_6 : decode cX10_countOfTable 6 = .ok (.aload_n 3, 1) := by decide +kernel
theorem dX10_countOfTable_7 : decode cX10_countOfTable 7 = .ok (.ifnonnull 5, 3) := by decide +kernel
theorem dX10_countOfTable_10 : decode cX10_countOfTable 10 = .ok (.iconst (-1), 1) := by decide +kernel
theorem dX10_countOfTable_11 : decode cX10_countOfTable 11 = .ok (.ireturn, 1) := by decide +kernel
theorem dX10_countOfTable_12 : decode cX10_countOfTable 12 = .ok (.iload_n 1, 1) := by decide +kernel
theorem dX10_countOfTable_13 : decode cX10_countOfTable 13 = .ok (.tableswitch 42 1 3 #[27, 32, 37], 27) := by decide +kernel
theorem dX10_countOfTable_40 : decode cX10_countOfTable 40 = .ok (.aload_n 3, 1) := by decide +kernel
theorem dX10_countOfTable_41 : decode cX10_countOfTable 41 = .ok (.invokevirtual 271, 3) := by decide +kernel
theorem dX10_countOfTable_44 : decode cX10_countOfTable 44 = .ok (.ireturn, 1) := by decide +kernel
theorem dX10_countOfTable_45 : decode cX10_countOfTable 45 = .ok (.aload_n 3, 1) := by decide +kernel
theorem dX10_countOfTable_46 : decode cX10_countOfTable 46 = .ok (.invokevirtual 346, 3) := by decide +kernel
theorem dX10_countOfTable_49 : decode cX10_countOfTable 49 = .ok (.ireturn, 1) := by decide +kernel
theorem dX10_countOfTable_50 : decode cX10_countOfTable 50 = .ok (.aload_n 3, 1) := by decide +kernel
theorem dX10_countOfTable_51 : decode cX10_countOfTable 51 = .ok (.getfield 277, 3) := by decide +kernel
theorem dX10_countOfTable_54 : decode cX10_countOfTable 54 = .ok (.ireturn, 1) := by decide +kernel
theorem dX10_countOfTable_55 : decode cX10_countOfTable 55 = .ok (.iconst (-1), 1) := by decide +kernel
theorem dX10_countOfTable_56 : decode cX10_countOfTable 56 = .ok (.ireturn, 1) := by decide +kernel
theorem dX10_sheetAt_0 : decode cX10_sheetAt 0 = .ok (.iload_n 1, 1) := by decide +kernel
theorem dX10_sheetAt_1 : decode cX10_sheetAt 1 = .ok (.ifCond .lt 20, 3) := by decide +kernel
theorem dX10_sheetAt_4 : decode cX10_sheetAt 4 = .ok (.iload_n 1, 1) := by decide +kernel
theorem dX10_sheetAt_5 : decode cX10_sheetAt 5 = .ok (.aload_n 0, 1) := by decide +kernel
theorem dX10_sheetAt_6 : decode cX10_sheetAt 6 = .ok (.getfield 94, 3) := by decide +kernel
theorem dX10_sheetAt_9 : decode cX10_sheetAt 9 = .ok (.if_icmp .ge 12, 3) := by decide +kernel
theorem dX10_sheetAt_12 : decode cX10_sheetAt 12 = .ok (.iload_n 1, 1) := by decide +kernel
theorem dX10_sheetAt_13 : decode cX10_sheetAt 13 = .ok (.aload_n 0, 1) := by decide +kernel
theorem dX10_sheetAt_14 : decode cX10_sheetAt 14 = .ok (.getfield 34, 3) := by decide +kernel
theorem dX10_sheetAt_17 : decode cX10_sheetAt 17 = .ok (.arraylength, 1) := by decide +kernel
theorem dX10_sheetAt_18 : decode cX10_sheetAt 18 = .ok (.if_icmp .lt 7, 3) := by decide +kernel
theorem dX10_sheetAt_21 : decode cX10_sheetAt 21 = .ok (.aconst_null, 1) := by decide +kernel
theorem dX10_sheetAt_22 : decode cX10_sheetAt 22 = .ok (.goto 9, 3) := by decide +kernel
theorem dX10_sheetAt_25 : decode cX10_sheetAt 25 = .ok (.aload_n 0, 1) := by decide +kernel
theorem dX10_sheetAt_26 : decode cX10_sheetAt 26 = .ok (.getfield 34, 3) := by decide +kernel
theorem dX10_sheetAt_29 : decode cX10_sheetAt 29 = .ok (.iload_n 1, 1) := by decide +kernel
theorem dX10_sheetAt_30 : decode cX10_sheetAt 30 = .ok (.aaload, 1) := by decide +kernel
theorem dX10_sheetAt_31 : decode cX10_sheetAt 31 = .ok (.areturn, 1) := by decide +kernel
theorem dX10_tableAt_0 : decode cX10_tableAt 0 = .ok (.iload_n 1, 1) := by decide +kernel
theorem dX10_tableAt_1 : decode cX10_tableAt 1 = .ok (.ifCond .lt 20, 3) := by decide +kernel
theorem dX10_tableAt_4 : decode cX10_tableAt 4 = .ok (.iload_n 1, 1) := by decide +kernel
theorem dX10_tableAt_5 : decode cX10_tableAt 5 = .ok (.aload_n 0, 1) := by decide +kernel
theorem dX10_tableAt_6 : decode cX10_tableAt 6 = .ok (.getfield 144, 3) := by decide +kernel
theorem dX10_tableAt_9 : decode cX10_tableAt 9 = .ok (.if_icmp .ge 12, 3) := by decide +kernel
theorem dX10_tableAt_12 : decode cX10_tableAt 12 = .ok (.iload_n 1, 1) := by decide +kernel
theorem dX10_tableAt_13 : decode cX10_tableAt 13 = .ok (.aload_n 0, 1) := by decide +kernel
theorem dX10_tableAt_14 : decode cX10_tableAt 14 = .ok (.getfield 40, 3) := by decide +kernel
theorem dX10_tableAt_17 : decode cX10_tableAt 17 = .ok (.arraylength, 1) := by decide +kernel
theorem dX10_tableAt_18 : decode cX10_tableAt 18 = .ok (.if_icmp .lt 7, 3) := by decide +kernel
theorem dX10_tableAt_21 : decode cX10_tableAt 21 = .ok (.aconst_null, 1) := by decide +kernel
theorem dX10_tableAt_22 : decode cX10_tableAt 22 = .ok (.goto 9, 3) := by decide +kernel
theorem dX10_tableAt_25 : decode cX10_tableAt 25 = .ok (.aload_n 0, 1) := by decide +kernel
theorem dX10_tableAt_26 : decode cX10_tableAt 26 = .ok (.getfield 40, 3) := by decide +kernel
theorem dX10_tableAt_29 : decode cX10_tableAt 29 = .ok (.iload_n 1, 1) := by decide +kernel
theorem dX10_tableAt_30 : decode cX10_tableAt 30 = .ok (.aaload, 1) := by decide +kernel
theorem dX10_tableAt_31 : decode cX10_tableAt 31 = .ok (.areturn, 1) := by decide +kernel
theorem dX10_plateAt_0 : decode cX10_plateAt 0 = .ok (.aload_n 0, 1) := by decide +kernel
theorem dX10_plateAt_1 : decode cX10_plateAt 1 = .ok (.iload_n 1, 1) := by decide +kernel
theorem dX10_plateAt_2 : decode cX10_plateAt 2 = .ok (.invokevirtual 159, 3) := by decide +kernel
theorem dX10_plateAt_5 : decode cX10_plateAt 5 = .ok (.astore_n 2, 1) := by decide +kernel
theorem dX10_plateAt_6 : decode cX10_plateAt 6 = .ok (.aload_n 2, 1) := by decide +kernel
theorem dX10_plateAt_7 : decode cX10_plateAt 7 = .ok (.ifnull 10, 3) := by decide +kernel
theorem dX10_plateAt_10 : decode cX10_plateAt 10 = .ok (.aload_n 2, 1) := by decide +kernel
theorem dX10_plateAt_11 : decode cX10_plateAt 11 = .ok (.getfield 264, 3) := by decide +kernel
theorem dX10_plateAt_14 : decode cX10_plateAt 14 = .ok (.ifCond .ne 7, 3) := by decide +kernel
theorem dX10_plateAt_17 : decode cX10_plateAt 17 = .ok (.aconst_null, 1) := by decide +kernel
theorem dX10_plateAt_18 : decode cX10_plateAt 18 = .ok (.goto 4, 3) := by decide +kernel
theorem dX10_plateAt_21 : decode cX10_plateAt 21 = .ok (.aload_n 2, 1) := by decide +kernel
theorem dX10_plateAt_22 : decode cX10_plateAt 22 = .ok (.areturn, 1) := by decide +kernel
theorem dX10_isWritable_0 : decode cX10_isWritable 0 = .ok (.iload_n 0, 1) := by decide +kernel
theorem dX10_isWritable_1 : decode cX10_isWritable 1 = .ok (.ldc_w 349, 3) := by decide +kernel
theorem dX10_isWritable_4 : decode cX10_isWritable 4 = .ok (.if_icmp .lt 14, 3) := by decide +kernel
theorem dX10_isWritable_7 : decode cX10_isWritable 7 = .ok (.iload_n 0, 1) := by decide +kernel
theorem dX10_isWritable_8 : decode cX10_isWritable 8 = .ok (.ldc_w 350, 3) := by decide +kernel
theorem dX10_isWritable_11 : decode cX10_isWritable 11 = .ok (.if_icmp .gt 7, 3) := by decide +kernel
theorem dX10_isWritable_14 : decode cX10_isWritable 14 = .ok (.iconst 1, 1) := by decide +kernel
theorem dX10_isWritable_15 : decode cX10_isWritable 15 = .ok (.goto 4, 3) := by decide +kernel
theorem dX10_isWritable_18 : decode cX10_isWritable 18 = .ok (.iconst 0, 1) := by decide +kernel
theorem dX10_isWritable_19 : decode cX10_isWritable 19 = .ok (.ireturn, 1) := by decide +kernel
theorem dX10_shown_0 : decode cX10_shown 0 = .ok (.lload_n 0, 1) := by decide +kernel
theorem dX10_shown_1 : decode cX10_shown 1 = .ok (.ldc2_w 351, 3) := by decide +kernel
theorem dX10_shown_4 : decode cX10_shown 4 = .ok (.lcmp, 1) := by decide +kernel
theorem dX10_shown_5 : decode cX10_shown 5 = .ok (.ifCond .le 11, 3) := by decide +kernel
theorem dX10_shown_8 : decode cX10_shown 8 = .ok (.lload_n 0, 1) := by decide +kernel
theorem dX10_shown_9 : decode cX10_shown 9 = .ok (.ldc2_w 353, 3) := by decide +kernel
theorem dX10_shown_12 : decode cX10_shown 12 = .ok (.lsub, 1) := by decide +kernel
theorem dX10_shown_13 : decode cX10_shown 13 = .ok (.goto 4, 3) := by decide +kernel
theorem dX10_shown_16 : decode cX10_shown 16 = .ok (.lload_n 0, 1) := by decide +kernel
theorem dX10_shown_17 : decode cX10_shown 17 = .ok (.l2i, 1) := by decide +kernel
theorem dX10_shown_18 : decode cX10_shown 18 = .ok (.ireturn, 1) := by decide +kernel
theorem dX10_nearest_0 : decode cX10_nearest 0 = .ok (.lload_n 2, 1) := by decide +kernel
theorem dX10_nearest_1 : decode cX10_nearest 1 = .ok (.lconst 0, 1) := by decide +kernel
theorem dX10_nearest_2 : decode cX10_nearest 2 = .ok (.lcmp, 1) := by decide +kernel
theorem dX10_nearest_3 : decode cX10_nearest 3 = .ok (.ifCond .gt 5, 3) := by decide +kernel
theorem dX10_nearest_6 : decode cX10_nearest 6 = .ok (.lconst 0, 1) := by decide +kernel
theorem dX10_nearest_7 : decode cX10_nearest 7 = .ok (.lreturn, 1) := by decide +kernel
theorem dX10_nearest_8 : decode cX10_nearest 8 = .ok (.ldc2_w 355, 3) := by decide +kernel
theorem dX10_nearest_11 : decode cX10_nearest 11 = .ok (.lload_n 0, 1) := by decide +kernel
theorem dX10_nearest_12 : decode cX10_nearest 12 = .ok (.invokestatic 357, 3) := by decide +kernel
theorem dX10_nearest_15 : decode cX10_nearest 15 = .ok (.lmul, 1) := by decide +kernel
theorem dX10_nearest_16 : decode cX10_nearest 16 = .ok (.lload_n 2, 1) := by decide +kernel
theorem dX10_nearest_17 : decode cX10_nearest 17 = .ok (.ladd, 1) := by decide +kernel
theorem dX10_nearest_18 : decode cX10_nearest 18 = .ok (.ldc2_w 355, 3) := by decide +kernel
theorem dX10_nearest_21 : decode cX10_nearest 21 = .ok (.lload_n 2, 1) := by decide +kernel
theorem dX10_nearest_22 : decode cX10_nearest 22 = .ok (.lmul, 1) := by decide +kernel
theorem dX10_nearest_23 : decode cX10_nearest 23 = .ok (.ldiv, 1) := by decide +kernel
theorem dX10_nearest_24 : decode cX10_nearest 24 = .ok (.lstore 4, 2) := by decide +kernel
theorem dX10_nearest_26 : decode cX10_nearest 26 = .ok (.lload_n 0, 1) := by decide +kernel
theorem dX10_nearest_27 : decode cX10_nearest 27 = .ok (.lconst 0, 1) := by decide +kernel
theorem dX10_nearest_28 : decode cX10_nearest 28 = .ok (.lcmp, 1) := by decide +kernel
theorem dX10_nearest_29 : decode cX10_nearest 29 = .ok (.ifCond .ge 9, 3) := by decide +kernel
theorem dX10_nearest_32 : decode cX10_nearest 32 = .ok (.lload 4, 2) := by decide +kernel
theorem dX10_nearest_34 : decode cX10_nearest 34 = .ok (.lneg, 1) := by decide +kernel
theorem dX10_nearest_35 : decode cX10_nearest 35 = .ok (.goto 5, 3) := by decide +kernel
theorem dX10_nearest_38 : decode cX10_nearest 38 = .ok (.lload 4, 2) := by decide +kernel
theorem dX10_nearest_40 : decode cX10_nearest 40 = .ok (.lreturn, 1) := by decide +kernel
theorem dX10_tenTo_0 : decode cX10_tenTo 0 = .ok (.iconst 1, 1) := by decide +kernel
theorem dX10_tenTo_1 : decode cX10_tenTo 1 = .ok (.istore_n 1, 1) := by decide +kernel
theorem dX10_tenTo_2 : decode cX10_tenTo 2 = .ok (.iconst 0, 1) := by decide +kernel
theorem dX10_tenTo_3 : decode cX10_tenTo 3 = .ok (.istore_n 2, 1) := by decide +kernel
theorem dX10_tenTo_4 : decode cX10_tenTo 4 = .ok (.iload_n 2, 1) := by decide +kernel
theorem dX10_tenTo_5 : decode cX10_tenTo 5 = .ok (.iload_n 0, 1) := by decide +kernel
theorem dX10_tenTo_6 : decode cX10_tenTo 6 = .ok (.if_icmp .ge 20, 3) := by decide +kernel
theorem dX10_tenTo_9 : decode cX10_tenTo 9 = .ok (.iload_n 2, 1) := by decide +kernel
theorem dX10_tenTo_10 : decode cX10_tenTo 10 = .ok (.bipush 9, 2) := by decide +kernel
theorem dX10_tenTo_12 : decode cX10_tenTo 12 = .ok (.if_icmp .ge 14, 3) := by decide +kernel
theorem dX10_tenTo_15 : decode cX10_tenTo 15 = .ok (.iload_n 1, 1) := by decide +kernel
theorem dX10_tenTo_16 : decode cX10_tenTo 16 = .ok (.bipush 10, 2) := by decide +kernel
theorem dX10_tenTo_18 : decode cX10_tenTo 18 = .ok (.imul, 1) := by decide +kernel
theorem dX10_tenTo_19 : decode cX10_tenTo 19 = .ok (.istore_n 1, 1) := by decide +kernel
theorem dX10_tenTo_20 : decode cX10_tenTo 20 = .ok (.iinc 2 1, 3) := by decide +kernel
theorem dX10_tenTo_23 : decode cX10_tenTo 23 = .ok (.goto (-19), 3) := by decide +kernel
theorem dX10_tenTo_26 : decode cX10_tenTo 26 = .ok (.iload_n 1, 1) := by decide +kernel
theorem dX10_tenTo_27 : decode cX10_tenTo 27 = .ok (.ireturn, 1) := by decide +kernel
theorem dX11_init_0 : decode cX11_init 0 = .ok (.aload_n 0, 1) := by decide +kernel
theorem dX11_init_1 : decode cX11_init 1 = .ok (.invokespecial 1, 3) := by decide +kernel
theorem dX11_init_4 : decode cX11_init 4 = .ok (.aload_n 0, 1) := by decide +kernel
theorem dX11_init_5 : decode cX11_init 5 = .ok (.sipush 200, 3) := by decide +kernel
theorem dX11_init_8 : decode cX11_init 8 = .ok (.newarray .byte, 2) := by decide +kernel
theorem dX11_init_10 : decode cX11_init 10 = .ok (.putfield 9, 3) := by decide +kernel
theorem dX11_init_13 : decode cX11_init 13 = .ok (.aload_n 0, 1) := by decide +kernel
theorem dX11_init_14 : decode cX11_init 14 = .ok (.sipush 800, 3) := by decide +kernel
theorem dX11_init_17 : decode cX11_init 17 = .ok (.newarray .int, 2) := by decide +kernel
theorem dX11_init_19 : decode cX11_init 19 = .ok (.putfield 13, 3) := by decide +kernel
theorem dX11_init_22 : decode cX11_init 22 = .ok (.aload_n 0, 1) := by decide +kernel
theorem dX11_init_23 : decode cX11_init 23 = .ok (.sipush 200, 3) := by decide +kernel
theorem dX11_init_26 : decode cX11_init 26 = .ok (.newarray .int, 2) := by decide +kernel
theorem dX11_init_28 : decode cX11_init 28 = .ok (.putfield 17, 3) := by decide +kernel
theorem dX11_init_31 : decode cX11_init 31 = .ok (.aload_n 0, 1) := by decide +kernel
theorem dX11_init_32 : decode cX11_init 32 = .ok (.sipush 200, 3) := by decide +kernel
theorem dX11_init_35 : decode cX11_init 35 = .ok (.newarray .int, 2) := by decide +kernel
theorem dX11_init_37 : decode cX11_init 37 = .ok (.putfield 20, 3) := by decide +kernel
theorem dX11_init_40 : decode cX11_init 40 = .ok (.aload_n 0, 1) := by decide +kernel
theorem dX11_init_41 : decode cX11_init 41 = .ok (.sipush 2000, 3) := by decide +kernel
theorem dX11_init_44 : decode cX11_init 44 = .ok (.newarray .int, 2) := by decide +kernel
theorem dX11_init_46 : decode cX11_init 46 = .ok (.putfield 23, 3) := by decide +kernel
theorem dX11_init_49 : decode cX11_init 49 = .ok (.aload_n 0, 1) := by decide +kernel
theorem dX11_init_50 : decode cX11_init 50 = .ok (.sipush 2000, 3) := by decide +kernel
theorem dX11_init_53 : decode cX11_init 53 = .ok (.newarray .int, 2) := by decide +kernel
theorem dX11_init_55 : decode cX11_init 55 = .ok (.putfield 26, 3) := by decide +kernel
theorem dX11_init_58 : decode cX11_init 58 = .ok (.aload_n 0, 1) := by decide +kernel
theorem dX11_init_59 : decode cX11_init 59 = .ok (.bipush 10, 2) := by decide +kernel
theorem dX11_init_61 : decode cX11_init 61 = .ok (.newarray .int, 2) := by decide +kernel
theorem dX11_init_63 : decode cX11_init 63 = .ok (.putfield 29, 3) := by decide +kernel
theorem dX11_init_66 : decode cX11_init 66 = .ok (.aload_n 0, 1) := by decide +kernel
theorem dX11_init_67 : decode cX11_init 67 = .ok (.iconst 5, 1) := by decide +kernel
theorem dX11_init_68 : decode cX11_init 68 = .ok (.newarray .int, 2) := by decide +kernel
theorem dX11_init_70 : decode cX11_init 70 = .ok (.putfield 32, 3) := by decide +kernel
theorem dX11_init_73 : decode cX11_init 73 = .ok (.aload_n 0, 1) := by decide +kernel
theorem dX11_init_74 : decode cX11_init 74 = .ok (.sipush 150, 3) := by decide +kernel
theorem dX11_init_77 : decode cX11_init 77 = .ok (.newarray .int, 2) := by decide +kernel
theorem dX11_init_79 : decode cX11_init 79 = .ok (.putfield 35, 3) := by decide +kernel
theorem dX11_init_82 : decode cX11_init 82 = .ok (.aload_n 0, 1) := by decide +kernel
theorem dX11_init_83 : decode cX11_init 83 = .ok (.bipush 24, 2) := by decide +kernel
theorem dX11_init_85 : decode cX11_init 85 = .ok (.newarray .int, 2) := by decide +kernel
theorem dX11_init_87 : decode cX11_init 87 = .ok (.putfield 38, 3) := by decide +kernel
theorem dX11_init_90 : decode cX11_init 90 = .ok (.aload_n 0, 1) := by decide +kernel
theorem dX11_init_91 : decode cX11_init 91 = .ok (.bipush 24, 2) := by decide +kernel
theorem dX11_init_93 : decode cX11_init 93 = .ok (.newarray .int, 2) := by decide +kernel
theorem dX11_init_95 : decode cX11_init 95 = .ok (.putfield 41, 3) := by decide +kernel
theorem dX11_init_98 : decode cX11_init 98 = .ok (.aload_n 0, 1) := by decide +kernel
theorem dX11_init_99 : decode cX11_init 99 = .ok (.bipush 24, 2) := by decide +kernel
theorem dX11_init_101 : decode cX11_init 101 = .ok (.newarray .int, 2) := by decide +kernel
theorem dX11_init_103 : decode cX11_init 103 = .ok (.putfield 44, 3) := by decide +kernel
theorem dX11_init_106 : decode cX11_init 106 = .ok (.aload_n 0, 1) := by decide +kernel
theorem dX11_init_107 : decode cX11_init 107 = .ok (.sipush 150, 3) := by decide +kernel
theorem dX11_init_110 : decode cX11_init 110 = .ok (.newarray .int, 2) := by decide +kernel
theorem dX11_init_112 : decode cX11_init 112 = .ok (.putfield 47, 3) := by decide +kernel
theorem dX11_init_115 : decode cX11_init 115 = .ok (.aload_n 0, 1) := by decide +kernel
theorem dX11_init_116 : decode cX11_init 116 = .ok (.sipush 150, 3) := by decide +kernel
theorem dX11_init_119 : decode cX11_init 119 = .ok (.newarray .int, 2) := by decide +kernel
theorem dX11_init_121 : decode cX11_init 121 = .ok (.putfield 50, 3) := by decide +kernel
theorem dX11_init_124 : decode cX11_init 124 = .ok (.aload_n 0, 1) := by decide +kernel
theorem dX11_init_125 : decode cX11_init 125 = .ok (.sipush 150, 3) := by decide +kernel
theorem dX11_init_128 : decode cX11_init 128 = .ok (.newarray .int, 2) := by decide +kernel
theorem dX11_init_130 : decode cX11_init 130 = .ok (.putfield 53, 3) := by decide +kernel
theorem dX11_init_133 : decode cX11_init 133 = .ok (.aload_n 0, 1) := by decide +kernel
theorem dX11_init_134 : decode cX11_init 134 = .ok (.sipush 150, 3) := by decide +kernel
theorem dX11_init_137 : decode cX11_init 137 = .ok (.newarray .int, 2) := by decide +kernel
theorem dX11_init_139 : decode cX11_init 139 = .ok (.putfield 56, 3) := by decide +kernel
theorem dX11_init_142 : decode cX11_init 142 = .ok (.aload_n 0, 1) := by decide +kernel
theorem dX11_init_143 : decode cX11_init 143 = .ok (.sipush 150, 3) := by decide +kernel
theorem dX11_init_146 : decode cX11_init 146 = .ok (.newarray .int, 2) := by decide +kernel
theorem dX11_init_148 : decode cX11_init 148 = .ok (.putfield 59, 3) := by decide +kernel
theorem dX11_init_151 : decode cX11_init 151 = .ok (.aload_n 0, 1) := by decide +kernel
theorem dX11_init_152 : decode cX11_init 152 = .ok (.sipush 150, 3) := by decide +kernel
theorem dX11_init_155 : decode cX11_init 155 = .ok (.newarray .int, 2) := by decide +kernel
theorem dX11_init_157 : decode cX11_init 157 = .ok (.putfield 62, 3) := by decide +kernel
theorem dX11_init_160 : decode cX11_init 160 = .ok (.aload_n 0, 1) := by decide +kernel
theorem dX11_init_161 : decode cX11_init 161 = .ok (.sipush 150, 3) := by decide +kernel
theorem dX11_init_164 : decode cX11_init 164 = .ok (.newarray .int, 2) := by decide +kernel
theorem dX11_init_166 : decode cX11_init 166 = .ok (.putfield 65, 3) := by decide +kernel
theorem dX11_init_169 : decode cX11_init 169 = .ok (.aload_n 0, 1) := by decide +kernel
theorem dX11_init_170 : decode cX11_init 170 = .ok (.iconst 5, 1) := by decide +kernel
theorem dX11_init_171 : decode cX11_init 171 = .ok (.newarray .boolean, 2) := by decide +kernel
theorem dX11_init_173 : decode cX11_init 173 = .ok (.putfield 68, 3) := by decide +kernel
theorem dX11_init_176 : decode cX11_init 176 = .ok (.aload_n 0, 1) := by decide +kernel
theorem dX11_init_177 : decode cX11_init 177 = .ok (.sipush 1000, 3) := by decide +kernel
theorem dX11_init_180 : decode cX11_init 180 = .ok (.putfield 72, 3) := by decide +kernel
theorem dX11_init_183 : decode cX11_init 183 = .ok (.aload_n 0, 1) := by decide +kernel
theorem dX11_init_184 : decode cX11_init 184 = .ok (.iconst 5, 1) := by decide +kernel
theorem dX11_init_185 : decode cX11_init 185 = .ok (.newarray .int, 2) := by decide +kernel
theorem dX11_init_187 : decode cX11_init 187 = .ok (.putfield 76, 3) := by decide +kernel
theorem dX11_init_190 : decode cX11_init 190 = .ok (.aload_n 0, 1) := by decide +kernel
theorem dX11_init_191 : decode cX11_init 191 = .ok (.iconst 5, 1) := by decide +kernel
theorem dX11_init_192 : decode cX11_init 192 = .ok (.newarray .int, 2) := by decide +kernel
theorem dX11_init_194 : decode cX11_init 194 = .ok (.putfield 79, 3) := by decide +kernel
theorem dX11_init_197 : decode cX11_init 197 = .ok (.aload_n 0, 1) := by decide +kernel
theorem dX11_init_198 : decode cX11_init 198 = .ok (.sipush 150, 3) := by decide +kernel
theorem dX11_init_201 : decode cX11_init 201 = .ok (.newarray .int, 2) := by decide +kernel
theorem dX11_init_203 : decode cX11_init 203 = .ok (.putfield 82, 3) := by decide +kernel
theorem dX11_init_206 : decode cX11_init 206 = .ok (.aload_n 0, 1) := by decide +kernel
theorem dX11_init_207 : decode cX11_init 207 = .ok (.bipush 40, 2) := by decide +kernel
theorem dX11_init_209 : decode cX11_init 209 = .ok (.newarray .int, 2) := by decide +kernel
