theorem dX2_init_0 : decode cX2_init 0 = .ok (.aload_n 0, 1) := by decide +kernel
theorem dX2_init_1 : decode cX2_init 1 = .ok (.invokespecial 3, 3) := by decide +kernel
theorem dX2_init_4 : decode cX2_init 4 = .ok (.aload_n 0, 1) := by decide +kernel
theorem dX2_init_5 : decode cX2_init 5 = .ok (.bipush 100, 2) := by decide +kernel
theorem dX2_init_7 : decode cX2_init 7 = .ok (.putfield 9, 3) := by decide +kernel
theorem dX2_init_10 : decode cX2_init 10 = .ok (.aload_n 0, 1) := by decide +kernel
theorem dX2_init_11 : decode cX2_init 11 = .ok (.iconst 0, 1) := by decide +kernel
theorem dX2_init_12 : decode cX2_init 12 = .ok (.putfield 15, 3) := by decide +kernel
theorem dX2_init_15 : decode cX2_init 15 = .ok (.aload_n 0, 1) := by decide +kernel
theorem dX2_init_16 : decode cX2_init 16 = .ok (.aload_n 1, 1) := by decide +kernel
theorem dX2_init_17 : decode cX2_init 17 = .ok (.putfield 18, 3) := by decide +kernel
theorem dX2_init_20 : decode cX2_init 20 = .ok (.return_, 1) := by decide +kernel
theorem dX2_pieceAt_0 : decode cX2_pieceAt 0 = .ok (.iconst (-1), 1) := by decide +kernel
theorem dX2_pieceAt_1 : decode cX2_pieceAt 1 = .ok (.istore_n 2, 1) := by decide +kernel
theorem dX2_pieceAt_2 : decode cX2_pieceAt 2 = .ok (.iconst 0, 1) := by decide +kernel
theorem dX2_pieceAt_3 : decode cX2_pieceAt 3 = .ok (.istore_n 3, 1) := by decide +kernel
theorem dX2_pieceAt_4 : decode cX2_pieceAt 4 = .ok (.iload_n 3, 1) := by decide +kernel
theorem dX2_pieceAt_5 : decode cX2_pieceAt 5 = .ok (.aload_n 0, 1) := by decide +kernel
theorem dX2_pieceAt_6 : decode cX2_pieceAt 6 = .ok (.getfield 18, 3) := by decide +kernel
theorem dX2_pieceAt_9 : decode cX2_pieceAt 9 = .ok (.getfield 22, 3) := by decide +kernel
theorem dX2_pieceAt_12 : decode cX2_pieceAt 12 = .ok (.if_icmp .ge 32, 3) := by decide +kernel
theorem dX2_pieceAt_15 : decode cX2_pieceAt 15 = .ok (.bipush 100, 2) := by decide +kernel
theorem dX2_pieceAt_17 : decode cX2_pieceAt 17 = .ok (.iload_n 1, 1) := by decide +kernel
theorem dX2_pieceAt_18 : decode cX2_pieceAt 18 = .ok (.imul, 1) := by decide +kernel
theorem dX2_pieceAt_19 : decode cX2_pieceAt 19 = .ok (.aload_n 0, 1) := by decide +kernel
theorem dX2_pieceAt_20 : decode cX2_pieceAt 20 = .ok (.getfield 9, 3) := by decide +kernel
theorem dX2_pieceAt_23 : decode cX2_pieceAt 23 = .ok (.aload_n 0, 1) := by decide +kernel
theorem dX2_pieceAt_24 : decode cX2_pieceAt 24 = .ok (.getfield 18, 3) := by decide +kernel
theorem dX2_pieceAt_27 : decode cX2_pieceAt 27 = .ok (.getfield 27, 3) := by decide +kernel
theorem dX2_pieceAt_30 : decode cX2_pieceAt 30 = .ok (.iload_n 3, 1) := by decide +kernel
theorem dX2_pieceAt_31 : decode cX2_pieceAt 31 = .ok (.iaload, 1) := by decide +kernel
theorem dX2_pieceAt_32 : decode cX2_pieceAt 32 = .ok (.imul, 1) := by decide +kernel
theorem dX2_pieceAt_33 : decode cX2_pieceAt 33 = .ok (.if_icmp .lt 5, 3) := by decide +kernel
theorem dX2_pieceAt_36 : decode cX2_pieceAt 36 = .ok (.iload_n 3, 1) := by decide +kernel
theorem dX2_pieceAt_37 : decode cX2_pieceAt 37 = .ok (.istore_n 2, 1) := by decide +kernel
theorem dX2_pieceAt_38 : decode cX2_pieceAt 38 = .ok (.iinc 3 1, 3) := by decide +kernel
theorem dX2_pieceAt_41 : decode cX2_pieceAt 41 = .ok (.goto (-37), 3) := by decide +kernel
theorem dX2_pieceAt_44 : decode cX2_pieceAt 44 = .ok (.iload_n 2, 1) := by decide +kernel
theorem dX2_pieceAt_45 : decode cX2_pieceAt 45 = .ok (.ireturn, 1) := by decide +kernel
theorem dX2_startBehind_0 : decode cX2_startBehind 0 = .ok (.iconst 0, 1) := by decide +kernel
theorem dX2_startBehind_1 : decode cX2_startBehind 1 = .ok (.istore_n 2, 1) := by decide +kernel
theorem dX2_startBehind_2 : decode cX2_startBehind 2 = .ok (.iload_n 2, 1) := by decide +kernel
theorem dX2_startBehind_3 : decode cX2_startBehind 3 = .ok (.aload_n 0, 1) := by decide +kernel
theorem dX2_startBehind_4 : decode cX2_startBehind 4 = .ok (.getfield 18, 3) := by decide +kernel
theorem dX2_startBehind_7 : decode cX2_startBehind 7 = .ok (.getfield 22, 3) := by decide +kernel
theorem dX2_startBehind_10 : decode cX2_startBehind 10 = .ok (.if_icmp .ge 45, 3) := by decide +kernel
theorem dX2_startBehind_13 : decode cX2_startBehind 13 = .ok (.aload_n 0, 1) := by decide +kernel
theorem dX2_startBehind_14 : decode cX2_startBehind 14 = .ok (.getfield 9, 3) := by decide +kernel
theorem dX2_startBehind_17 : decode cX2_startBehind 17 = .ok (.aload_n 0, 1) := by decide +kernel
theorem dX2_startBehind_18 : decode cX2_startBehind 18 = .ok (.getfield 18, 3) := by decide +kernel
theorem dX2_startBehind_21 : decode cX2_startBehind 21 = .ok (.getfield 27, 3) := by decide +kernel
theorem dX2_startBehind_24 : decode cX2_startBehind 24 = .ok (.iload_n 2, 1) := by decide +kernel
theorem dX2_startBehind_25 : decode cX2_startBehind 25 = .ok (.iaload, 1) := by decide +kernel
theorem dX2_startBehind_26 : decode cX2_startBehind 26 = .ok (.imul, 1) := by decide +kernel
theorem dX2_startBehind_27 : decode cX2_startBehind 27 = .ok (.bipush 100, 2) := by decide +kernel
theorem dX2_startBehind_29 : decode cX2_startBehind 29 = .ok (.iadd, 1) := by decide +kernel
theorem dX2_startBehind_30 : decode cX2_startBehind 30 = .ok (.iconst 1, 1) := by decide +kernel
theorem dX2_startBehind_31 : decode cX2_startBehind 31 = .ok (.isub, 1) := by decide +kernel
theorem dX2_startBehind_32 : decode cX2_startBehind 32 = .ok (.bipush 100, 2) := by decide +kernel
theorem dX2_startBehind_34 : decode cX2_startBehind 34 = .ok (.idiv, 1) := by decide +kernel
theorem dX2_startBehind_35 : decode cX2_startBehind 35 = .ok (.istore_n 3, 1) := by decide +kernel
theorem dX2_startBehind_36 : decode cX2_startBehind 36 = .ok (.iload_n 3, 1) := by decide +kernel
theorem dX2_startBehind_37 : decode cX2_startBehind 37 = .ok (.iload_n 1, 1) := by decide +kernel
theorem dX2_startBehind_38 : decode cX2_startBehind 38 = .ok (.if_icmp .le 11, 3) := by decide +kernel
theorem dX2_startBehind_41 : decode cX2_startBehind 41 = .ok (.iload_n 3, 1) := by decide +kernel
theorem dX2_startBehind_42 : decode cX2_startBehind 42 = .ok (.sipush 5001, 3) := by decide +kernel
theorem dX2_startBehind_45 : decode cX2_startBehind 45 = .ok (.invokestatic 31, 3) := by decide +kernel
theorem dX2_startBehind_48 : decode cX2_startBehind 48 = .ok (.ireturn, 1) := by decide +kernel
theorem dX2_startBehind_49 : decode cX2_startBehind 49 = .ok (.iinc 2 1, 3) := by decide +kernel
theorem dX2_startBehind_52 : decode cX2_startBehind 52 = .ok (.goto (-50), 3) := by decide +kernel
theorem dX2_startBehind_55 : decode cX2_startBehind 55 = .ok (.sipush 5001, 3) := by decide +kernel
theorem dX2_startBehind_58 : decode cX2_startBehind 58 = .ok (.ireturn, 1) := by decide +kernel
theorem dX2_partsOn_0 : decode cX2_partsOn 0 = .ok (.iload_n 1, 1) := by decide +kernel
theorem dX2_partsOn_1 : decode cX2_partsOn 1 = .ok (.ifCond .lt 16, 3) := by decide +kernel
theorem dX2_partsOn_4 : decode cX2_partsOn 4 = .ok (.iload_n 1, 1) := by decide +kernel
theorem dX2_partsOn_5 : decode cX2_partsOn 5 = .ok (.iconst 1, 1) := by decide +kernel
theorem dX2_partsOn_6 : decode cX2_partsOn 6 = .ok (.iadd, 1) := by decide +kernel
theorem dX2_partsOn_7 : decode cX2_partsOn 7 = .ok (.aload_n 0, 1) := by decide +kernel
theorem dX2_partsOn_8 : decode cX2_partsOn 8 = .ok (.getfield 18, 3) := by decide +kernel
theorem dX2_partsOn_11 : decode cX2_partsOn 11 = .ok (.getfield 22, 3) := by decide +kernel
theorem dX2_partsOn_14 : decode cX2_partsOn 14 = .ok (.if_icmp .lt 5, 3) := by decide +kernel
theorem dX2_partsOn_17 : decode cX2_partsOn 17 = .ok (.lconst 1, 1) := by decide +kernel
theorem dX2_partsOn_18 : decode cX2_partsOn 18 = .ok (.lreturn, 1) := by decide +kernel
theorem dX2_partsOn_19 : decode cX2_partsOn 19 = .ok (.aload_n 0, 1) := by decide +kernel
theorem dX2_partsOn_20 : decode cX2_partsOn 20 = .ok (.getfield 9, 3) := by decide +kernel
theorem dX2_partsOn_23 : decode cX2_partsOn 23 = .ok (.i2l, 1) := by decide +kernel
theorem dX2_partsOn_24 : decode cX2_partsOn 24 = .ok (.aload_n 0, 1) := by decide +kernel
theorem dX2_partsOn_25 : decode cX2_partsOn 25 = .ok (.getfield 18, 3) := by decide +kernel
theorem dX2_partsOn_28 : decode cX2_partsOn 28 = .ok (.getfield 27, 3) := by decide +kernel
theorem dX2_partsOn_31 : decode cX2_partsOn 31 = .ok (.iload_n 1, 1) := by decide +kernel
theorem dX2_partsOn_32 : decode cX2_partsOn 32 = .ok (.iconst 1, 1) := by decide +kernel
theorem dX2_partsOn_33 : decode cX2_partsOn 33 = .ok (.iadd, 1) := by decide +kernel
theorem dX2_partsOn_34 : decode cX2_partsOn 34 = .ok (.iaload, 1) := by decide +kernel
theorem dX2_partsOn_35 : decode cX2_partsOn 35 = .ok (.aload_n 0, 1) := by decide +kernel
theorem dX2_partsOn_36 : decode cX2_partsOn 36 = .ok (.getfield 18, 3) := by decide +kernel
theorem dX2_partsOn_39 : decode cX2_partsOn 39 = .ok (.getfield 27, 3) := by decide +kernel
theorem dX2_partsOn_42 : decode cX2_partsOn 42 = .ok (.iload_n 1, 1) := by decide +kernel
theorem dX2_partsOn_43 : decode cX2_partsOn 43 = .ok (.iaload, 1) := by decide +kernel
theorem dX2_partsOn_44 : decode cX2_partsOn 44 = .ok (.isub, 1) := by decide +kernel
theorem dX2_partsOn_45 : decode cX2_partsOn 45 = .ok (.i2l, 1) := by decide +kernel
theorem dX2_partsOn_46 : decode cX2_partsOn 46 = .ok (.lmul, 1) := by decide +kernel
theorem dX2_partsOn_47 : decode cX2_partsOn 47 = .ok (.lreturn, 1) := by decide +kernel
theorem dX2_timeInParts_0 : decode cX2_timeInParts 0 = .ok (.iload 5, 2) := by decide +kernel
theorem dX2_timeInParts_2 : decode cX2_timeInParts 2 = .ok (.ifCond .eq 13, 3) := by decide +kernel
theorem dX2_timeInParts_5 : decode cX2_timeInParts 5 = .ok (.aload_n 0, 1) := by decide +kernel
theorem dX2_timeInParts_6 : decode cX2_timeInParts 6 = .ok (.getfield 18, 3) := by decide +kernel
theorem dX2_timeInParts_9 : decode cX2_timeInParts 9 = .ok (.getfield 37, 3) := by decide +kernel
theorem dX2_timeInParts_12 : decode cX2_timeInParts 12 = .ok (.goto 10, 3) := by decide +kernel
theorem dX2_timeInParts_15 : decode cX2_timeInParts 15 = .ok (.aload_n 0, 1) := by decide +kernel
theorem dX2_timeInParts_16 : decode cX2_timeInParts 16 = .ok (.getfield 18, 3) := by decide +kernel
theorem dX2_timeInParts_19 : decode cX2_timeInParts 19 = .ok (.getfield 40, 3) := by decide +kernel
theorem dX2_timeInParts_22 : decode cX2_timeInParts 22 = .ok (.astore 6, 2) := by decide +kernel
theorem dX2_timeInParts_24 : decode cX2_timeInParts 24 = .ok (.aload 6, 2) := by decide +kernel
theorem dX2_timeInParts_26 : decode cX2_timeInParts 26 = .ok (.iload_n 1, 1) := by decide +kernel
theorem dX2_timeInParts_27 : decode cX2_timeInParts 27 = .ok (.iaload, 1) := by decide +kernel
theorem dX2_timeInParts_28 : decode cX2_timeInParts 28 = .ok (.aload_n 0, 1) := by decide +kernel
theorem dX2_timeInParts_29 : decode cX2_timeInParts 29 = .ok (.getfield 15, 3) := by decide +kernel
theorem dX2_timeInParts_32 : decode cX2_timeInParts 32 = .ok (.iadd, 1) := by decide +kernel
theorem dX2_timeInParts_33 : decode cX2_timeInParts 33 = .ok (.i2l, 1) := by decide +kernel
theorem dX2_timeInParts_34 : decode cX2_timeInParts 34 = .ok (.lload_n 2, 1) := by decide +kernel
theorem dX2_timeInParts_35 : decode cX2_timeInParts 35 = .ok (.lmul, 1) := by decide +kernel
theorem dX2_timeInParts_36 : decode cX2_timeInParts 36 = .ok (.lstore 7, 2) := by decide +kernel
theorem dX2_timeInParts_38 : decode cX2_timeInParts 38 = .ok (.iload_n 1, 1) := by decide +kernel
theorem dX2_timeInParts_39 : decode cX2_timeInParts 39 = .ok (.iconst 1, 1) := by decide +kernel
theorem dX2_timeInParts_40 : decode cX2_timeInParts 40 = .ok (.iadd, 1) := by decide +kernel
theorem dX2_timeInParts_41 : decode cX2_timeInParts 41 = .ok (.aload_n 0, 1) := by decide +kernel
theorem dX2_timeInParts_42 : decode cX2_timeInParts 42 = .ok (.getfield 18, 3) := by decide +kernel
theorem dX2_timeInParts_45 : decode cX2_timeInParts 45 = .ok (.getfield 22, 3) := by decide +kernel
theorem dX2_timeInParts_48 : decode cX2_timeInParts 48 = .ok (.if_icmp .lt 6, 3) := by decide +kernel
theorem dX2_timeInParts_51 : decode cX2_timeInParts 51 = .ok (.lload 7, 2) := by decide +kernel
theorem dX2_timeInParts_53 : decode cX2_timeInParts 53 = .ok (.lreturn, 1) := by decide +kernel
theorem dX2_timeInParts_54 : decode cX2_timeInParts 54 = .ok (.aload 6, 2) := by decide +kernel
theorem dX2_timeInParts_56 : decode cX2_timeInParts 56 = .ok (.iload_n 1, 1) := by decide +kernel
theorem dX2_timeInParts_57 : decode cX2_timeInParts 57 = .ok (.iconst 1, 1) := by decide +kernel
theorem dX2_timeInParts_58 : decode cX2_timeInParts 58 = .ok (.iadd, 1) := by decide +kernel
theorem dX2_timeInParts_59 : decode cX2_timeInParts 59 = .ok (.iaload, 1) := by decide +kernel
theorem dX2_timeInParts_60 : decode cX2_timeInParts 60 = .ok (.aload 6, 2) := by decide +kernel
theorem dX2_timeInParts_62 : decode cX2_timeInParts 62 = .ok (.iload_n 1, 1) := by decide +kernel
theorem dX2_timeInParts_63 : decode cX2_timeInParts 63 = .ok (.iaload, 1) := by decide +kernel
theorem dX2_timeInParts_64 : decode cX2_timeInParts 64 = .ok (.isub, 1) := by decide +kernel
theorem dX2_timeInParts_65 : decode cX2_timeInParts 65 = .ok (.i2l, 1) := by decide +kernel
theorem dX2_timeInParts_66 : decode cX2_timeInParts 66 = .ok (.lstore 9, 2) := by decide +kernel
theorem dX2_timeInParts_68 : decode cX2_timeInParts 68 = .ok (.lload 7, 2) := by decide +kernel
theorem dX2_timeInParts_70 : decode cX2_timeInParts 70 = .ok (.lload 9, 2) := by decide +kernel
theorem dX2_timeInParts_72 : decode cX2_timeInParts 72 = .ok (.bipush 100, 2) := by decide +kernel
theorem dX2_timeInParts_74 : decode cX2_timeInParts 74 = .ok (.iload 4, 2) := by decide +kernel
theorem dX2_timeInParts_76 : decode cX2_timeInParts 76 = .ok (.imul, 1) := by decide +kernel
theorem dX2_timeInParts_77 : decode cX2_timeInParts 77 = .ok (.aload_n 0, 1) := by decide +kernel
theorem dX2_timeInParts_78 : decode cX2_timeInParts 78 = .ok (.getfield 9, 3) := by decide +kernel
theorem dX2_timeInParts_81 : decode cX2_timeInParts 81 = .ok (.aload_n 0, 1) := by decide +kernel
theorem dX2_timeInParts_82 : decode cX2_timeInParts 82 = .ok (.getfield 18, 3) := by decide +kernel
theorem dX2_timeInParts_85 : decode cX2_timeInParts 85 = .ok (.getfield 27, 3) := by decide +kernel
theorem dX2_timeInParts_88 : decode cX2_timeInParts 88 = .ok (.iload_n 1, 1) := by decide +kernel
theorem dX2_timeInParts_89 : decode cX2_timeInParts 89 = .ok (.iaload, 1) := by decide +kernel
theorem dX2_timeInParts_90 : decode cX2_timeInParts 90 = .ok (.imul, 1) := by decide +kernel
theorem dX2_timeInParts_91 : decode cX2_timeInParts 91 = .ok (.isub, 1) := by decide +kernel
theorem dX2_timeInParts_92 : decode cX2_timeInParts 92 = .ok (.i2l, 1) := by decide +kernel
theorem dX2_timeInParts_93 : decode cX2_timeInParts 93 = .ok (.lmul, 1) := by decide +kernel
theorem dX2_timeInParts_94 : decode cX2_timeInParts 94 = .ok (.ladd, 1) := by decide +kernel
theorem dX2_timeInParts_95 : decode cX2_timeInParts 95 = .ok (.lreturn, 1) := by decide +kernel
theorem dX2_wholeTime_0 : decode cX2_wholeTime 0 = .ok (.aload_n 0, 1) := by decide +kernel
theorem dX2_wholeTime_1 : decode cX2_wholeTime 1 = .ok (.iload_n 1, 1) := by decide +kernel
theorem dX2_wholeTime_2 : decode cX2_wholeTime 2 = .ok (.invokevirtual 43, 3) := by decide +kernel
theorem dX2_wholeTime_5 : decode cX2_wholeTime 5 = .ok (.lstore 4, 2) := by decide +kernel
theorem dX2_wholeTime_7 : decode cX2_wholeTime 7 = .ok (.lload 4, 2) := by decide +kernel
theorem dX2_wholeTime_9 : decode cX2_wholeTime 9 = .ok (.lconst 1, 1) := by decide +kernel
theorem dX2_wholeTime_10 : decode cX2_wholeTime 10 = .ok (.lcmp, 1) := by decide +kernel
theorem dX2_wholeTime_11 : decode cX2_wholeTime 11 = .ok (.ifCond .ge 7, 3) := by decide +kernel
theorem dX2_wholeTime_14 : decode cX2_wholeTime 14 = .ok (.iconst (-1), 1) := by decide +kernel
theorem dX2_wholeTime_15 : decode cX2_wholeTime 15 = .ok (.goto 16, 3) := by decide +kernel
theorem dX2_wholeTime_18 : decode cX2_wholeTime 18 = .ok (.aload_n 0, 1) := by decide +kernel
theorem dX2_wholeTime_19 : decode cX2_wholeTime 19 = .ok (.iload_n 1, 1) := by decide +kernel
theorem dX2_wholeTime_20 : decode cX2_wholeTime 20 = .ok (.lload 4, 2) := by decide +kernel
theorem dX2_wholeTime_22 : decode cX2_wholeTime 22 = .ok (.iload_n 2, 1) := by decide +kernel
theorem dX2_wholeTime_23 : decode cX2_wholeTime 23 = .ok (.iload_n 3, 1) := by decide +kernel
theorem dX2_wholeTime_24 : decode cX2_wholeTime 24 = .ok (.invokevirtual 47, 3) := by decide +kernel
theorem dX2_wholeTime_27 : decode cX2_wholeTime 27 = .ok (.lload 4, 2) := by decide +kernel
theorem dX2_wholeTime_29 : decode cX2_wholeTime 29 = .ok (.ldiv, 1) := by decide +kernel
theorem dX2_wholeTime_30 : decode cX2_wholeTime 30 = .ok (.l2i, 1) := by decide +kernel
theorem dX2_wholeTime_31 : decode cX2_wholeTime 31 = .ok (.ireturn, 1) := by decide +kernel
theorem dX2_isWithin_0 : decode cX2_isWithin 0 = .ok (.aload_n 3, 1) := by decide +kernel
theorem dX2_isWithin_1 : decode cX2_isWithin 1 = .ok (.iload 5, 2) := by decide +kernel
theorem dX2_isWithin_3 : decode cX2_isWithin 3 = .ok (.invokevirtual 51, 3) := by decide +kernel
theorem dX2_isWithin_6 : decode cX2_isWithin 6 = .ok (.istore 6, 2) := by decide +kernel
theorem dX2_isWithin_8 : decode cX2_isWithin 8 = .ok (.iload 6, 2) := by decide +kernel
theorem dX2_isWithin_10 : decode cX2_isWithin 10 = .ok (.iconst (-1), 1) := by decide +kernel
theorem dX2_isWithin_11 : decode cX2_isWithin 11 = .ok (.if_icmp .ne 5, 3) := by decide +kernel
theorem dX2_isWithin_14 : decode cX2_isWithin 14 = .ok (.iconst 1, 1) := by decide +kernel
theorem dX2_isWithin_15 : decode cX2_isWithin 15 = .ok (.ireturn, 1) := by decide +kernel
theorem dX2_isWithin_16 : decode cX2_isWithin 16 = .ok (.aload_n 0, 1) := by decide +kernel
theorem dX2_isWithin_17 : decode cX2_isWithin 17 = .ok (.iload 5, 2) := by decide +kernel
theorem dX2_isWithin_19 : decode cX2_isWithin 19 = .ok (.invokevirtual 51, 3) := by decide +kernel
theorem dX2_isWithin_22 : decode cX2_isWithin 22 = .ok (.istore 7, 2) := by decide +kernel
theorem dX2_isWithin_24 : decode cX2_isWithin 24 = .ok (.iload 7, 2) := by decide +kernel
theorem dX2_isWithin_26 : decode cX2_isWithin 26 = .ok (.iconst (-1), 1) := by decide +kernel
theorem dX2_isWithin_27 : decode cX2_isWithin 27 = .ok (.if_icmp .ne 5, 3) := by decide +kernel
theorem dX2_isWithin_30 : decode cX2_isWithin 30 = .ok (.iconst 0, 1) := by decide +kernel
theorem dX2_isWithin_31 : decode cX2_isWithin 31 = .ok (.ireturn, 1) := by decide +kernel
theorem dX2_isWithin_32 : decode cX2_isWithin 32 = .ok (.aload_n 0, 1) := by decide +kernel
theorem dX2_isWithin_33 : decode cX2_isWithin 33 = .ok (.iload 7, 2) := by decide +kernel
theorem dX2_isWithin_35 : decode cX2_isWithin 35 = .ok (.invokevirtual 43, 3) := by decide +kernel
theorem dX2_isWithin_38 : decode cX2_isWithin 38 = .ok (.lstore 8, 2) := by decide +kernel
theorem dX2_isWithin_40 : decode cX2_isWithin 40 = .ok (.aload_n 3, 1) := by decide +kernel
theorem dX2_isWithin_41 : decode cX2_isWithin 41 = .ok (.iload 6, 2) := by decide +kernel
theorem dX2_isWithin_43 : decode cX2_isWithin 43 = .ok (.invokevirtual 43, 3) := by decide +kernel
theorem dX2_isWithin_46 : decode cX2_isWithin 46 = .ok (.lstore 10, 2) := by decide +kernel
theorem dX2_isWithin_48 : decode cX2_isWithin 48 = .ok (.aload_n 0, 1) := by decide +kernel
theorem dX2_isWithin_49 : decode cX2_isWithin 49 = .ok (.iload 7, 2) := by decide +kernel
theorem dX2_isWithin_51 : decode cX2_isWithin 51 = .ok (.lload 8, 2) := by decide +kernel
theorem dX2_isWithin_53 : decode cX2_isWithin 53 = .ok (.iload 5, 2) := by decide +kernel
theorem dX2_isWithin_55 : decode cX2_isWithin 55 = .ok (.iload_n 1, 1) := by decide +kernel
theorem dX2_isWithin_56 : decode cX2_isWithin 56 = .ok (.invokevirtual 47, 3) := by decide +kernel
theorem dX2_isWithin_59 : decode cX2_isWithin 59 = .ok (.iload_n 2, 1) := by decide +kernel
theorem dX2_isWithin_60 : decode cX2_isWithin 60 = .ok (.i2l, 1) := by decide +kernel
theorem dX2_isWithin_61 : decode cX2_isWithin 61 = .ok (.lload 8, 2) := by decide +kernel
theorem dX2_isWithin_63 : decode cX2_isWithin 63 = .ok (.lmul, 1) := by decide +kernel
theorem dX2_isWithin_64 : decode cX2_isWithin 64 = .ok (.ladd, 1) := by decide +kernel
theorem dX2_isWithin_65 : decode cX2_isWithin 65 = .ok (.lstore 12, 2) := by decide +kernel
theorem dX2_isWithin_67 : decode cX2_isWithin 67 = .ok (.aload_n 3, 1) := by decide +kernel
theorem dX2_isWithin_68 : decode cX2_isWithin 68 = .ok (.iload 6, 2) := by decide +kernel
theorem dX2_isWithin_70 : decode cX2_isWithin 70 = .ok (.lload 10, 2) := by decide +kernel
theorem dX2_isWithin_72 : decode cX2_isWithin 72 = .ok (.iload 5, 2) := by decide +kernel
theorem dX2_isWithin_74 : decode cX2_isWithin 74 = .ok (.iload 4, 2) := by decide +kernel
theorem dX2_isWithin_76 : decode cX2_isWithin 76 = .ok (.invokevirtual 47, 3) := by decide +kernel
theorem dX2_isWithin_79 : decode cX2_isWithin 79 = .ok (.lstore 14, 2) := by decide +kernel
theorem dX2_isWithin_81 : decode cX2_isWithin 81 = .ok (.lload 12, 2) := by decide +kernel
theorem dX2_isWithin_83 : decode cX2_isWithin 83 = .ok (.lload 10, 2) := by decide +kernel
theorem dX2_isWithin_85 : decode cX2_isWithin 85 = .ok (.lmul, 1) := by decide +kernel
theorem dX2_isWithin_86 : decode cX2_isWithin 86 = .ok (.lload 14, 2) := by decide +kernel
theorem dX2_isWithin_88 : decode cX2_isWithin 88 = .ok (.lload 8, 2) := by decide +kernel
theorem dX2_isWithin_90 : decode cX2_isWithin 90 = .ok (.lmul, 1) := by decide +kernel
theorem dX2_isWithin_91 : decode cX2_isWithin 91 = .ok (.lcmp, 1) := by decide +kernel
theorem dX2_isWithin_92 : decode cX2_isWithin 92 = .ok (.ifCond .gt 7, 3) := by decide +kernel
theorem dX2_isWithin_95 : decode cX2_isWithin 95 = .ok (.iconst 1, 1) := by decide +kernel
theorem dX2_isWithin_96 : decode cX2_isWithin 96 = .ok (.goto 4, 3) := by decide +kernel
theorem dX2_isWithin_99 : decode cX2_isWithin 99 = .ok (.iconst 0, 1) := by decide +kernel
theorem dX2_isWithin_100 : decode cX2_isWithin 100 = .ok (.ireturn, 1) := by decide +kernel
