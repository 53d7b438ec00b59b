theorem dX1_gatherNeeded_0 : decode cX1_gatherNeeded 0 = .ok (.aload_n 0, 1) := by decide +kernel
theorem dX1_gatherNeeded_1 : decode cX1_gatherNeeded 1 = .ok (.aload_n 0, 1) := by decide +kernel
theorem dX1_gatherNeeded_2 : decode cX1_gatherNeeded 2 = .ok (.getfield 9, 3) := by decide +kernel
theorem dX1_gatherNeeded_5 : decode cX1_gatherNeeded 5 = .ok (.iload_n 1, 1) := by decide +kernel
theorem dX1_gatherNeeded_6 : decode cX1_gatherNeeded 6 = .ok (.invokestatic 19, 3) := by decide +kernel
theorem dX1_gatherNeeded_9 : decode cX1_gatherNeeded 9 = .ok (.invokevirtual 62, 3) := by decide +kernel
theorem dX1_gatherNeeded_12 : decode cX1_gatherNeeded 12 = .ok (.putfield 15, 3) := by decide +kernel
theorem dX1_gatherNeeded_15 : decode cX1_gatherNeeded 15 = .ok (.aload_n 0, 1) := by decide +kernel
theorem dX1_gatherNeeded_16 : decode cX1_gatherNeeded 16 = .ok (.getfield 9, 3) := by decide +kernel
theorem dX1_gatherNeeded_19 : decode cX1_gatherNeeded 19 = .ok (.aload_n 0, 1) := by decide +kernel
theorem dX1_gatherNeeded_20 : decode cX1_gatherNeeded 20 = .ok (.getfield 15, 3) := by decide +kernel
theorem dX1_gatherNeeded_23 : decode cX1_gatherNeeded 23 = .ok (.invokevirtual 66, 3) := by decide +kernel
theorem dX1_gatherNeeded_26 : decode cX1_gatherNeeded 26 = .ok (.ifCond .eq 6, 3) := by decide +kernel
theorem dX1_gatherNeeded_29 : decode cX1_gatherNeeded 29 = .ok (.bipush (-4), 2) := by decide +kernel
theorem dX1_gatherNeeded_31 : decode cX1_gatherNeeded 31 = .ok (.ireturn, 1) := by decide +kernel
theorem dX1_gatherNeeded_32 : decode cX1_gatherNeeded 32 = .ok (.aload_n 0, 1) := by decide +kernel
theorem dX1_gatherNeeded_33 : decode cX1_gatherNeeded 33 = .ok (.aload_n 0, 1) := by decide +kernel
theorem dX1_gatherNeeded_34 : decode cX1_gatherNeeded 34 = .ok (.getfield 9, 3) := by decide +kernel
theorem dX1_gatherNeeded_37 : decode cX1_gatherNeeded 37 = .ok (.aload_n 0, 1) := by decide +kernel
theorem dX1_gatherNeeded_38 : decode cX1_gatherNeeded 38 = .ok (.getfield 15, 3) := by decide +kernel
theorem dX1_gatherNeeded_41 : decode cX1_gatherNeeded 41 = .ok (.lload_n 2, 1) := by decide +kernel
theorem dX1_gatherNeeded_42 : decode cX1_gatherNeeded 42 = .ok (.land, 1) := by decide +kernel
theorem dX1_gatherNeeded_43 : decode cX1_gatherNeeded 43 = .ok (.invokevirtual 49, 3) := by decide +kernel
theorem dX1_gatherNeeded_46 : decode cX1_gatherNeeded 46 = .ok (.putfield 53, 3) := by decide +kernel
theorem dX1_gatherNeeded_49 : decode cX1_gatherNeeded 49 = .ok (.aload_n 0, 1) := by decide +kernel
theorem dX1_gatherNeeded_50 : decode cX1_gatherNeeded 50 = .ok (.getfield 53, 3) := by decide +kernel
theorem dX1_gatherNeeded_53 : decode cX1_gatherNeeded 53 = .ok (.ifCond .le 8, 3) := by decide +kernel
theorem dX1_gatherNeeded_56 : decode cX1_gatherNeeded 56 = .ok (.bipush (-5), 2) := by decide +kernel
theorem dX1_gatherNeeded_58 : decode cX1_gatherNeeded 58 = .ok (.goto 4, 3) := by decide +kernel
theorem dX1_gatherNeeded_61 : decode cX1_gatherNeeded 61 = .ok (.iconst 0, 1) := by decide +kernel
theorem dX1_gatherNeeded_62 : decode cX1_gatherNeeded 62 = .ok (.ireturn, 1) := by decide +kernel
theorem dX1_gatherWanted_0 : decode cX1_gatherWanted 0 = .ok (.lconst 0, 1) := by decide +kernel
theorem dX1_gatherWanted_1 : decode cX1_gatherWanted 1 = .ok (.lstore_n 3, 1) := by decide +kernel
theorem dX1_gatherWanted_2 : decode cX1_gatherWanted 2 = .ok (.iconst 0, 1) := by decide +kernel
theorem dX1_gatherWanted_3 : decode cX1_gatherWanted 3 = .ok (.istore 5, 2) := by decide +kernel
theorem dX1_gatherWanted_5 : decode cX1_gatherWanted 5 = .ok (.iload 5, 2) := by decide +kernel
theorem dX1_gatherWanted_7 : decode cX1_gatherWanted 7 = .ok (.bipush 40, 2) := by decide +kernel
theorem dX1_gatherWanted_9 : decode cX1_gatherWanted 9 = .ok (.if_icmp .ge 108, 3) := by decide +kernel
theorem dX1_gatherWanted_12 : decode cX1_gatherWanted 12 = .ok (.aload_n 0, 1) := by decide +kernel
theorem dX1_gatherWanted_13 : decode cX1_gatherWanted 13 = .ok (.getfield 9, 3) := by decide +kernel
theorem dX1_gatherWanted_16 : decode cX1_gatherWanted 16 = .ok (.iconst 1, 1) := by decide +kernel
theorem dX1_gatherWanted_17 : decode cX1_gatherWanted 17 = .ok (.aload_n 0, 1) := by decide +kernel
theorem dX1_gatherWanted_18 : decode cX1_gatherWanted 18 = .ok (.getfield 15, 3) := by decide +kernel
theorem dX1_gatherWanted_21 : decode cX1_gatherWanted 21 = .ok (.invokevirtual 42, 3) := by decide +kernel
theorem dX1_gatherWanted_24 : decode cX1_gatherWanted 24 = .ok (.aload_n 0, 1) := by decide +kernel
theorem dX1_gatherWanted_25 : decode cX1_gatherWanted 25 = .ok (.getfield 15, 3) := by decide +kernel
theorem dX1_gatherWanted_28 : decode cX1_gatherWanted 28 = .ok (.ldc2_w 32, 3) := by decide +kernel
theorem dX1_gatherWanted_31 : decode cX1_gatherWanted 31 = .ok (.lxor, 1) := by decide +kernel
theorem dX1_gatherWanted_32 : decode cX1_gatherWanted 32 = .ok (.land, 1) := by decide +kernel
theorem dX1_gatherWanted_33 : decode cX1_gatherWanted 33 = .ok (.lload_n 3, 1) := by decide +kernel
theorem dX1_gatherWanted_34 : decode cX1_gatherWanted 34 = .ok (.ldc2_w 32, 3) := by decide +kernel
theorem dX1_gatherWanted_37 : decode cX1_gatherWanted 37 = .ok (.lxor, 1) := by decide +kernel
theorem dX1_gatherWanted_38 : decode cX1_gatherWanted 38 = .ok (.land, 1) := by decide +kernel
theorem dX1_gatherWanted_39 : decode cX1_gatherWanted 39 = .ok (.invokestatic 70, 3) := by decide +kernel
theorem dX1_gatherWanted_42 : decode cX1_gatherWanted 42 = .ok (.istore 6, 2) := by decide +kernel
theorem dX1_gatherWanted_44 : decode cX1_gatherWanted 44 = .ok (.iload 6, 2) := by decide +kernel
theorem dX1_gatherWanted_46 : decode cX1_gatherWanted 46 = .ok (.ifCond .ge 4, 3) := by decide +kernel
theorem dX1_gatherWanted_49 : decode cX1_gatherWanted 49 = .ok (.return_, 1) := by decide +kernel
theorem dX1_gatherWanted_50 : decode cX1_gatherWanted 50 = .ok (.lload_n 3, 1) := by decide +kernel
theorem dX1_gatherWanted_51 : decode cX1_gatherWanted 51 = .ok (.iload 6, 2) := by decide +kernel
theorem dX1_gatherWanted_53 : decode cX1_gatherWanted 53 = .ok (.invokestatic 19, 3) := by decide +kernel
theorem dX1_gatherWanted_56 : decode cX1_gatherWanted 56 = .ok (.lor, 1) := by decide +kernel
theorem dX1_gatherWanted_57 : decode cX1_gatherWanted 57 = .ok (.lstore_n 3, 1) := by decide +kernel
theorem dX1_gatherWanted_58 : decode cX1_gatherWanted 58 = .ok (.aload_n 0, 1) := by decide +kernel
theorem dX1_gatherWanted_59 : decode cX1_gatherWanted 59 = .ok (.getfield 15, 3) := by decide +kernel
theorem dX1_gatherWanted_62 : decode cX1_gatherWanted 62 = .ok (.aload_n 0, 1) := by decide +kernel
theorem dX1_gatherWanted_63 : decode cX1_gatherWanted 63 = .ok (.getfield 9, 3) := by decide +kernel
theorem dX1_gatherWanted_66 : decode cX1_gatherWanted 66 = .ok (.iload 6, 2) := by decide +kernel
theorem dX1_gatherWanted_68 : decode cX1_gatherWanted 68 = .ok (.invokestatic 19, 3) := by decide +kernel
theorem dX1_gatherWanted_71 : decode cX1_gatherWanted 71 = .ok (.invokevirtual 62, 3) := by decide +kernel
theorem dX1_gatherWanted_74 : decode cX1_gatherWanted 74 = .ok (.lor, 1) := by decide +kernel
theorem dX1_gatherWanted_75 : decode cX1_gatherWanted 75 = .ok (.lstore 7, 2) := by decide +kernel
theorem dX1_gatherWanted_77 : decode cX1_gatherWanted 77 = .ok (.aload_n 0, 1) := by decide +kernel
theorem dX1_gatherWanted_78 : decode cX1_gatherWanted 78 = .ok (.getfield 9, 3) := by decide +kernel
theorem dX1_gatherWanted_81 : decode cX1_gatherWanted 81 = .ok (.lload 7, 2) := by decide +kernel
theorem dX1_gatherWanted_83 : decode cX1_gatherWanted 83 = .ok (.invokevirtual 66, 3) := by decide +kernel
theorem dX1_gatherWanted_86 : decode cX1_gatherWanted 86 = .ok (.ifCond .ne 25, 3) := by decide +kernel
theorem dX1_gatherWanted_89 : decode cX1_gatherWanted 89 = .ok (.aload_n 0, 1) := by decide +kernel
theorem dX1_gatherWanted_90 : decode cX1_gatherWanted 90 = .ok (.getfield 9, 3) := by decide +kernel
theorem dX1_gatherWanted_93 : decode cX1_gatherWanted 93 = .ok (.lload 7, 2) := by decide +kernel
theorem dX1_gatherWanted_95 : decode cX1_gatherWanted 95 = .ok (.lload_n 1, 1) := by decide +kernel
theorem dX1_gatherWanted_96 : decode cX1_gatherWanted 96 = .ok (.land, 1) := by decide +kernel
theorem dX1_gatherWanted_97 : decode cX1_gatherWanted 97 = .ok (.invokevirtual 73, 3) := by decide +kernel
theorem dX1_gatherWanted_100 : decode cX1_gatherWanted 100 = .ok (.lconst 0, 1) := by decide +kernel
theorem dX1_gatherWanted_101 : decode cX1_gatherWanted 101 = .ok (.lcmp, 1) := by decide +kernel
theorem dX1_gatherWanted_102 : decode cX1_gatherWanted 102 = .ok (.ifCond .ne 9, 3) := by decide +kernel
theorem dX1_gatherWanted_105 : decode cX1_gatherWanted 105 = .ok (.aload_n 0, 1) := by decide +kernel
theorem dX1_gatherWanted_106 : decode cX1_gatherWanted 106 = .ok (.lload 7, 2) := by decide +kernel
theorem dX1_gatherWanted_108 : decode cX1_gatherWanted 108 = .ok (.putfield 15, 3) := by decide +kernel
theorem dX1_gatherWanted_111 : decode cX1_gatherWanted 111 = .ok (.iinc 5 1, 3) := by decide +kernel
theorem dX1_gatherWanted_114 : decode cX1_gatherWanted 114 = .ok (.goto (-109), 3) := by decide +kernel
theorem dX1_gatherWanted_117 : decode cX1_gatherWanted 117 = .ok (.return_, 1) := by decide +kernel
theorem dX1_least_0 : decode cX1_least 0 = .ok (.iconst 0, 1) := by decide +kernel
theorem dX1_least_1 : decode cX1_least 1 = .ok (.istore_n 2, 1) := by decide +kernel
theorem dX1_least_2 : decode cX1_least 2 = .ok (.iload_n 2, 1) := by decide +kernel
theorem dX1_least_3 : decode cX1_least 3 = .ok (.bipush 40, 2) := by decide +kernel
theorem dX1_least_5 : decode cX1_least 5 = .ok (.if_icmp .ge 19, 3) := by decide +kernel
theorem dX1_least_8 : decode cX1_least 8 = .ok (.lload_n 0, 1) := by decide +kernel
theorem dX1_least_9 : decode cX1_least 9 = .ok (.iload_n 2, 1) := by decide +kernel
theorem dX1_least_10 : decode cX1_least 10 = .ok (.invokestatic 76, 3) := by decide +kernel
theorem dX1_least_13 : decode cX1_least 13 = .ok (.ifCond .eq 5, 3) := by decide +kernel
theorem dX1_least_16 : decode cX1_least 16 = .ok (.iload_n 2, 1) := by decide +kernel
theorem dX1_least_17 : decode cX1_least 17 = .ok (.ireturn, 1) := by decide +kernel
theorem dX1_least_18 : decode cX1_least 18 = .ok (.iinc 2 1, 3) := by decide +kernel
theorem dX1_least_21 : decode cX1_least 21 = .ok (.goto (-19), 3) := by decide +kernel
theorem dX1_least_24 : decode cX1_least 24 = .ok (.iconst (-1), 1) := by decide +kernel
theorem dX1_least_25 : decode cX1_least 25 = .ok (.ireturn, 1) := by decide +kernel
theorem dX2_add_0 : decode cX2_add 0 = .ok (.aload_n 0, 1) := by decide +kernel
theorem dX2_add_1 : decode cX2_add 1 = .ok (.getfield 9, 3) := by decide +kernel
theorem dX2_add_4 : decode cX2_add 4 = .ok (.aload_n 0, 1) := by decide +kernel
theorem dX2_add_5 : decode cX2_add 5 = .ok (.getfield 15, 3) := by decide +kernel
theorem dX2_add_8 : decode cX2_add 8 = .ok (.sipush 2000, 3) := by decide +kernel
theorem dX2_add_11 : decode cX2_add 11 = .ok (.invokestatic 19, 3) := by decide +kernel
theorem dX2_add_14 : decode cX2_add 14 = .ok (.iload_n 1, 1) := by decide +kernel
theorem dX2_add_15 : decode cX2_add 15 = .ok (.i2l, 1) := by decide +kernel
theorem dX2_add_16 : decode cX2_add 16 = .ok (.ldc2_w 25, 3) := by decide +kernel
theorem dX2_add_19 : decode cX2_add 19 = .ok (.lmul, 1) := by decide +kernel
theorem dX2_add_20 : decode cX2_add 20 = .ok (.iload_n 2, 1) := by decide +kernel
theorem dX2_add_21 : decode cX2_add 21 = .ok (.bipush 8, 2) := by decide +kernel
theorem dX2_add_23 : decode cX2_add 23 = .ok (.imul, 1) := by decide +kernel
theorem dX2_add_24 : decode cX2_add 24 = .ok (.i2l, 1) := by decide +kernel
theorem dX2_add_25 : decode cX2_add 25 = .ok (.ladd, 1) := by decide +kernel
theorem dX2_add_26 : decode cX2_add 26 = .ok (.iload_n 3, 1) := by decide +kernel
theorem dX2_add_27 : decode cX2_add 27 = .ok (.i2l, 1) := by decide +kernel
theorem dX2_add_28 : decode cX2_add 28 = .ok (.ladd, 1) := by decide +kernel
theorem dX2_add_29 : decode cX2_add 29 = .ok (.lastore, 1) := by decide +kernel
theorem dX2_add_30 : decode cX2_add 30 = .ok (.aload_n 0, 1) := by decide +kernel
theorem dX2_add_31 : decode cX2_add 31 = .ok (.dup, 1) := by decide +kernel
theorem dX2_add_32 : decode cX2_add 32 = .ok (.getfield 15, 3) := by decide +kernel
theorem dX2_add_35 : decode cX2_add 35 = .ok (.iconst 1, 1) := by decide +kernel
theorem dX2_add_36 : decode cX2_add 36 = .ok (.iadd, 1) := by decide +kernel
theorem dX2_add_37 : decode cX2_add 37 = .ok (.putfield 15, 3) := by decide +kernel
theorem dX2_add_40 : decode cX2_add 40 = .ok (.return_, 1) := by decide +kernel
theorem dJ13_bitCount_95d88_0 : decode cJ13_bitCount_95d88 0 = .ok (.lload_n 0, 1) := by decide +kernel
theorem dJ13_bitCount_95d88_1 : decode cJ13_bitCount_95d88 1 = .ok (.lload_n 0, 1) := by decide +kernel
theorem dJ13_bitCount_95d88_2 : decode cJ13_bitCount_95d88 2 = .ok (.iconst 1, 1) := by decide +kernel
theorem dJ13_bitCount_95d88_3 : decode cJ13_bitCount_95d88 3 = .ok (.lushr, 1) := by decide +kernel
theorem dJ13_bitCount_95d88_4 : decode cJ13_bitCount_95d88 4 = .ok (.ldc2_w 314, 3) := by decide +kernel
theorem dJ13_bitCount_95d88_7 : decode cJ13_bitCount_95d88 7 = .ok (.land, 1) := by decide +kernel
theorem dJ13_bitCount_95d88_8 : decode cJ13_bitCount_95d88 8 = .ok (.lsub, 1) := by decide +kernel
theorem dJ13_bitCount_95d88_9 : decode cJ13_bitCount_95d88 9 = .ok (.lstore_n 0, 1) := by decide +kernel
theorem dJ13_bitCount_95d88_10 : decode cJ13_bitCount_95d88 10 = .ok (.lload_n 0, 1) := by decide +kernel
theorem dJ13_bitCount_95d88_11 : decode cJ13_bitCount_95d88 11 = .ok (.ldc2_w 316, 3) := by decide +kernel
theorem dJ13_bitCount_95d88_14 : decode cJ13_bitCount_95d88 14 = .ok (.land, 1) := by decide +kernel
theorem dJ13_bitCount_95d88_15 : decode cJ13_bitCount_95d88 15 = .ok (.lload_n 0, 1) := by decide +kernel
theorem dJ13_bitCount_95d88_16 : decode cJ13_bitCount_95d88 16 = .ok (.iconst 2, 1) := by decide +kernel
theorem dJ13_bitCount_95d88_17 : decode cJ13_bitCount_95d88 17 = .ok (.lushr, 1) := by decide +kernel
theorem dJ13_bitCount_95d88_18 : decode cJ13_bitCount_95d88 18 = .ok (.ldc2_w 316, 3) := by decide +kernel
theorem dJ13_bitCount_95d88_21 : decode cJ13_bitCount_95d88 21 = .ok (.land, 1) := by decide +kernel
theorem dJ13_bitCount_95d88_22 : decode cJ13_bitCount_95d88 22 = .ok (.ladd, 1) := by decide +kernel
theorem dJ13_bitCount_95d88_23 : decode cJ13_bitCount_95d88 23 = .ok (.lstore_n 0, 1) := by decide +kernel
theorem dJ13_bitCount_95d88_24 : decode cJ13_bitCount_95d88 24 = .ok (.lload_n 0, 1) := by decide +kernel
theorem dJ13_bitCount_95d88_25 : decode cJ13_bitCount_95d88 25 = .ok (.lload_n 0, 1) := by decide +kernel
theorem dJ13_bitCount_95d88_26 : decode cJ13_bitCount_95d88 26 = .ok (.iconst 4, 1) := by decide +kernel
theorem dJ13_bitCount_95d88_27 : decode cJ13_bitCount_95d88 27 = .ok (.lushr, 1) := by decide +kernel
theorem dJ13_bitCount_95d88_28 : decode cJ13_bitCount_95d88 28 = .ok (.ladd, 1) := by decide +kernel
theorem dJ13_bitCount_95d88_29 : decode cJ13_bitCount_95d88 29 = .ok (.ldc2_w 318, 3) := by decide +kernel
theorem dJ13_bitCount_95d88_32 : decode cJ13_bitCount_95d88 32 = .ok (.land, 1) := by decide +kernel
theorem dJ13_bitCount_95d88_33 : decode cJ13_bitCount_95d88 33 = .ok (.lstore_n 0, 1) := by decide +kernel
theorem dJ13_bitCount_95d88_34 : decode cJ13_bitCount_95d88 34 = .ok (.lload_n 0, 1) := by decide +kernel
theorem dJ13_bitCount_95d88_35 : decode cJ13_bitCount_95d88 35 = .ok (.lload_n 0, 1) := by decide +kernel
theorem dJ13_bitCount_95d88_36 : decode cJ13_bitCount_95d88 36 = .ok (.bipush 8, 2) := by decide +kernel
theorem dJ13_bitCount_95d88_38 : decode cJ13_bitCount_95d88 38 = .ok (.lushr, 1) := by decide +kernel
theorem dJ13_bitCount_95d88_39 : decode cJ13_bitCount_95d88 39 = .ok (.ladd, 1) := by decide +kernel
theorem dJ13_bitCount_95d88_40 : decode cJ13_bitCount_95d88 40 = .ok (.lstore_n 0, 1) := by decide +kernel
theorem dJ13_bitCount_95d88_41 : decode cJ13_bitCount_95d88 41 = .ok (.lload_n 0, 1) := by decide +kernel
theorem dJ13_bitCount_95d88_42 : decode cJ13_bitCount_95d88 42 = .ok (.lload_n 0, 1) := by decide +kernel
theorem dJ13_bitCount_95d88_43 : decode cJ13_bitCount_95d88 43 = .ok (.bipush 16, 2) := by decide +kernel
theorem dJ13_bitCount_95d88_45 : decode cJ13_bitCount_95d88 45 = .ok (.lushr, 1) := by decide +kernel
theorem dJ13_bitCount_95d88_46 : decode cJ13_bitCount_95d88 46 = .ok (.ladd, 1) := by decide +kernel
theorem dJ13_bitCount_95d88_47 : decode cJ13_bitCount_95d88 47 = .ok (.lstore_n 0, 1) := by decide +kernel
theorem dJ13_bitCount_95d88_48 : decode cJ13_bitCount_95d88 48 = .ok (.lload_n 0, 1) := by decide +kernel
theorem dJ13_bitCount_95d88_49 : decode cJ13_bitCount_95d88 49 = .ok (.lload_n 0, 1) := by decide +kernel
theorem dJ13_bitCount_95d88_50 : decode cJ13_bitCount_95d88 50 = .ok (.bipush 32, 2) := by decide +kernel
theorem dJ13_bitCount_95d88_52 : decode cJ13_bitCount_95d88 52 = .ok (.lushr, 1) := by decide +kernel
theorem dJ13_bitCount_95d88_53 : decode cJ13_bitCount_95d88 53 = .ok (.ladd, 1) := by decide +kernel
theorem dJ13_bitCount_95d88_54 : decode cJ13_bitCount_95d88 54 = .ok (.lstore_n 0, 1) := by decide +kernel
theorem dJ13_bitCount_95d88_55 : decode cJ13_bitCount_95d88 55 = .ok (.lload_n 0, 1) := by decide +kernel
theorem dJ13_bitCount_95d88_56 : decode cJ13_bitCount_95d88 56 = .ok (.l2i, 1) := by decide +kernel
theorem dJ13_bitCount_95d88_57 : decode cJ13_bitCount_95d88 57 = .ok (.bipush 127, 2) := by decide +kernel
theorem dJ13_bitCount_95d88_59 : decode cJ13_bitCount_95d88 59 = .ok (.iand, 1) := by decide +kernel
theorem dJ13_bitCount_95d88_60 : decode cJ13_bitCount_95d88 60 = .ok (.ireturn, 1) := by decide +kernel
theorem dJ9_floorMod_7cf53_0 : decode cJ9_floorMod_7cf53 0 = .ok (.iload_n 0, 1) := by decide +kernel
theorem dJ9_floorMod_7cf53_1 : decode cJ9_floorMod_7cf53 1 = .ok (.iload_n 1, 1) := by decide +kernel
theorem dJ9_floorMod_7cf53_2 : decode cJ9_floorMod_7cf53 2 = .ok (.irem, 1) := by decide +kernel
theorem dJ9_floorMod_7cf53_3 : decode cJ9_floorMod_7cf53 3 = .ok (.istore_n 2, 1) := by decide +kernel
theorem dJ9_floorMod_7cf53_4 : decode cJ9_floorMod_7cf53 4 = .ok (.iload_n 0, 1) := by decide +kernel
theorem dJ9_floorMod_7cf53_5 : decode cJ9_floorMod_7cf53 5 = .ok (.iload_n 1, 1) := by decide +kernel
theorem dJ9_floorMod_7cf53_6 : decode cJ9_floorMod_7cf53 6 = .ok (.ixor, 1) := by decide +kernel
theorem dJ9_floorMod_7cf53_7 : decode cJ9_floorMod_7cf53 7 = .ok (.ifCond .ge 11, 3) := by decide +kernel
theorem dJ9_floorMod_7cf53_18 : decode cJ9_floorMod_7cf53 18 = .ok (.iload_n 2, 1) := by decide +kernel
theorem dJ9_floorMod_7cf53_19 : decode cJ9_floorMod_7cf53 19 = .ok (.ireturn, 1) := by decide +kernel
def wq_x_floorMod : List Cond := [.code yJ9_floorMod_7cf53 cJ9_floorMod_7cf53 3 (some .int)]
set_option maxRecDepth 20000 in
theorem wi_x_floorMod : ∀ w ∈ wq_x_floorMod, w ∈ lw_tbl := (by decide +kernel)
set_option maxRecDepth 20000 in
theorem wg_x_floorMod : GoodIn wq_x_floorMod wq_x_floorMod := goodIn_sub (fun _ h => h) (by decide +kernel)
def rm_x_floorMod : Room := { frames := 0, cells := 0, slots := 0, locals := 0 }
set_option maxHeartbeats 4000000 in
set_option maxRecDepth 100000 in
theorem c_x_floorMod (l : Launch) (dC : Nat → ClassId) (dI : Nat → Nat → Nat) (h : Nat) (a : Nat → Nat) (e : Nat) (cI cJ cO cE : ClassId) (L : Nat → Int64) (I : Nat → Int32) (M : Nat → Nat → Int64) (J : Nat → Nat → Int32) (n cap : Nat) (fE : Nat → Option Nat) (sd : Nat → Nat → Nat) (si : Nat → Nat → Int32) (sa : Nat → Nat → Nat → Int32) (dl : Nat → Nat) (b : Nat) (xv : Nat) (sz : Nat) (hX0 : InvX n cap fE sd dl b I J si) (hb0 : b + 0 < 2147483648) (hp0 : xv < 2147483648) : Met l yJ9_floorMod_7cf53 wq_x_floorMod rm_x_floorMod (va_Pc [.int (nI xv), .int 2000] (fun U => U.heap.size = sz ∧ va_P (dC, dI) vwCl (xW h a e cI cJ cO cE L I M J n cap fE sd si sa dl) U.heap ∧ va_K (dC, dI) vwCl (xT cI cJ cO cE) U ∧ va_D (fun _ => True) (xW h a e cI cJ cO cE L I M J n cap fE sd si sa dl) ∧ pw_N U)) (va_Qi (fun (r : Int32) (u : Unit) => (∃ j : Nat, j < 2000 ∧ r = nI j)) (fun (u : Unit) (t : State) => va_P (dC, dI) vwCl (xW h a e cI cJ cO cE L I M J n cap fE sd si sa dl) t.heap ∧ va_D (va_A (xW h a e cI cJ cO cE L I M J n cap fE sd si sa dl) sz) (xW h a e cI cJ cO cE L I M J n cap fE sd si sa dl)) (va_A (xW h a e cI cJ cO cE L I M J n cap fE sd si sa dl) sz)) 0 0 (va_A (xW h a e cI cJ cO cE L I M J n cap fE sd si sa dl) sz) := by
  have hn : n ≤ 40 := hX0.1.1
  have hX := hX0
  refine xw_ofWF (cc := cJ9_floorMod_7cf53) (maxL := 3) (ret := (some .int)) (by decide +kernel) rfl ?_
  intro p e9 s m args below meth c s₁ B hml hv
  obtain ⟨rfl, hsz, hP, hK, hD0, hN⟩ := hv
  have hx := B.exec
  have hb := B.bytes
  have hr := B.returns
  have hts := atoms_spec (ws := wq_x_floorMod) B.pre
  have hown : s.vm.findClass RJ9 = some m.cls := findClass_of_methodNamed B.named
  have hlocks := B.notSynchronized
  subst hsz
  have hD := hD0.self (sz := s.heap.size)
  generalize hAe : va_A (xW h a e cI cJ cO cE L I M J n cap fE sd si sa dl) s.heap.size = A at hD ⊢
  have hA : ∀ q : Nat, s.heap.size ≤ q → A q := fun q h => by rw [← hAe]; exact Or.inr h
  have hS : va_S A s.heap s.heap [] := va_S.rf
  have hl := lv_entry ([.int (nI xv), .int 2000]) (n := 3) (Nat.le_of_ble_eq_true rfl)
  rw [lg_entry_eq]
  generalize (lg_sl ([.int (nI xv), .int 2000]) ++ List.replicate (3 - (lg_sl ([.int (nI xv), .int 2000])).length) Slot.unset).toArray = ls at hl ⊢
  have hl : lv_has ls 3 [(0, .int (nI xv)), (1, .int 2000)] := hl
  refine lv_iload_n hx hb dJ9_floorMod_7cf53_0 rfl (lv_at hl 0 rfl) ?_
  refine lv_iload_n hx hb dJ9_floorMod_7cf53_1 rfl (lv_at hl 1 rfl) ?_
  refine lv_irem hx hb dJ9_floorMod_7cf53_2 (by decide) ?_
  obtain ⟨m1, hm1, em1⟩ : ∃ z9 : Nat, z9 < 2000 ∧ z9 = xv % 2000 := ⟨_, Nat.mod_lt _ (by omega), rfl⟩
  refine p1_topr (v := .int (nI m1)) (congrArg Value.int (by rw [em1]; exact pk_rem (a := xv) (d := 2000) (by omega) (by omega) (by omega))) ?_
  refine lv_istore_n (lv' := [(2, .int (nI m1)), (0, .int (nI xv)), (1, .int 2000)]) hx hb dJ9_floorMod_7cf53_3 rfl hl (by decide) rfl (fun ls hl => ?_)
  refine lv_iload_n hx hb dJ9_floorMod_7cf53_4 rfl (lv_at hl 1 rfl) ?_
  refine lv_iload_n hx hb dJ9_floorMod_7cf53_5 rfl (lv_at hl 2 rfl) ?_
  refine lv_ixor hx hb dJ9_floorMod_7cf53_6 ?_
  refine lv_topi (fun x2 ex2 => ?_)
  refine lv_if_ge (tgt := 18) hx hb dJ9_floorMod_7cf53_7 (by decide) (fun c3 => ?_) (fun c3 => ?_)
  · refine lv_iload_n hx hb dJ9_floorMod_7cf53_18 rfl (lv_at hl 0 rfl) ?_
    exact W.iret (v := (nI m1)) hx hb hr (fun t ht hW => ⟨⟨(nI m1), (), rfl, ⟨m1, hm1, rfl⟩, by rw [ht]; exact hP, hD⟩, hS.F ht⟩) hS.2.2 dJ9_floorMod_7cf53_19
  · exact absurd (xw_xor (by omega) ex2) c3
def wq_x_bitCount : List Cond := [.code yJ13_bitCount_95d88 cJ13_bitCount_95d88 2 (some .int), .constantLong RJ13 314 (6148914691236517205), .constantLong RJ13 316 (3689348814741910323), .constantLong RJ13 318 (1085102592571150095)]
set_option maxRecDepth 20000 in
theorem wi_x_bitCount : ∀ w ∈ wq_x_bitCount, w ∈ lw_tbl := (by decide +kernel)
set_option maxRecDepth 20000 in
theorem wg_x_bitCount : GoodIn wq_x_bitCount wq_x_bitCount := goodIn_sub (fun _ h => h) (by decide +kernel)
def rm_x_bitCount : Room := { frames := 0, cells := 0, slots := 0, locals := 0 }
set_option maxHeartbeats 4000000 in
set_option maxRecDepth 100000 in
theorem c_x_bitCount (l : Launch) (dC : Nat → ClassId) (dI : Nat → Nat → Nat) (h : Nat) (a : Nat → Nat) (e : Nat) (cI cJ cO cE : ClassId) (L : Nat → Int64) (I : Nat → Int32) (M : Nat → Nat → Int64) (J : Nat → Nat → Int32) (n cap : Nat) (fE : Nat → Option Nat) (sd : Nat → Nat → Nat) (si : Nat → Nat → Int32) (sa : Nat → Nat → Nat → Int32) (dl : Nat → Nat) (b : Nat) (p0 : Int64) (sz : Nat) (hX0 : InvX n cap fE sd dl b I J si) (hb0 : b + 0 < 2147483648)  : Met l yJ13_bitCount_95d88 wq_x_bitCount rm_x_bitCount (va_Pc [.long p0] (fun U => U.heap.size = sz ∧ va_P (dC, dI) vwCl (xW h a e cI cJ cO cE L I M J n cap fE sd si sa dl) U.heap ∧ va_K (dC, dI) vwCl (xT cI cJ cO cE) U ∧ va_D (fun _ => True) (xW h a e cI cJ cO cE L I M J n cap fE sd si sa dl) ∧ pw_N U)) (va_Qi (fun (r : Int32) (u : Unit) => (True)) (fun (u : Unit) (t : State) => va_P (dC, dI) vwCl (xW h a e cI cJ cO cE L I M J n cap fE sd si sa dl) t.heap ∧ va_D (va_A (xW h a e cI cJ cO cE L I M J n cap fE sd si sa dl) sz) (xW h a e cI cJ cO cE L I M J n cap fE sd si sa dl)) (va_A (xW h a e cI cJ cO cE L I M J n cap fE sd si sa dl) sz)) 0 0 (va_A (xW h a e cI cJ cO cE L I M J n cap fE sd si sa dl) sz) := by
  have hn : n ≤ 40 := hX0.1.1
  have hX := hX0
  refine Met.ofW (cc := cJ13_bitCount_95d88) (maxL := 2) (ret := (some .int)) (by decide) rfl ?_
  intro p e9 s m args below meth c s₁ B hml hv
  obtain ⟨rfl, hsz, hP, hK, hD0, hN⟩ := hv
  have hx := B.exec
  have hb := B.bytes
  have hr := B.returns
  have hts := atoms_spec (ws := wq_x_bitCount) B.pre
  have hown : s.vm.findClass RJ13 = some m.cls := findClass_of_methodNamed B.named
  have hlocks := B.notSynchronized
  subst hsz
  have hD := hD0.self (sz := s.heap.size)
  generalize hAe : va_A (xW h a e cI cJ cO cE L I M J n cap fE sd si sa dl) s.heap.size = A at hD ⊢
  have hA : ∀ q : Nat, s.heap.size ≤ q → A q := fun q h => by rw [← hAe]; exact Or.inr h
  have hS : va_S A s.heap s.heap [] := va_S.rf
  have hl := lv_entry ([.long p0]) (n := 2) (Nat.le_of_ble_eq_true rfl)
  rw [lg_entry_eq]
  generalize (lg_sl ([.long p0]) ++ List.replicate (2 - (lg_sl ([.long p0])).length) Slot.unset).toArray = ls at hl ⊢
  have hl : lv_has ls 2 [(0, .long p0)] := hl
  refine lv_lload_n hx hb dJ13_bitCount_95d88_0 rfl (lv_at hl 0 rfl) ?_
  refine lv_lload_n hx hb dJ13_bitCount_95d88_1 rfl (lv_at hl 0 rfl) ?_
  refine lv_iconst (v := 1) hx hb dJ13_bitCount_95d88_2 (by decide) ?_
  refine lv_lushr hx hb dJ13_bitCount_95d88_3 rfl ?_
  refine lv_topl (fun x1 ex1 => ?_)
  refine lv_ldc2 (v := 6148914691236517205) hx hb hown (hts (.constantLong RJ13 314 (6148914691236517205)) (by decide +kernel)) dJ13_bitCount_95d88_4 ?_
  refine lv_land hx hb dJ13_bitCount_95d88_7 ?_
  refine lv_topl (fun x2 ex2 => ?_)
  refine lv_lsub hx hb dJ13_bitCount_95d88_8 ?_
  refine lv_topl (fun x3 ex3 => ?_)
  refine lv_lstore_n (lv' := [(0, .long x3)]) hx hb dJ13_bitCount_95d88_9 rfl hl (by decide) rfl (fun ls hl => ?_)
  refine lv_lload_n hx hb dJ13_bitCount_95d88_10 rfl (lv_at hl 0 rfl) ?_
  refine lv_ldc2 (v := 3689348814741910323) hx hb hown (hts (.constantLong RJ13 316 (3689348814741910323)) (by decide +kernel)) dJ13_bitCount_95d88_11 ?_
  refine lv_land hx hb dJ13_bitCount_95d88_14 ?_
  refine lv_topl (fun x4 ex4 => ?_)
  refine lv_lload_n hx hb dJ13_bitCount_95d88_15 rfl (lv_at hl 0 rfl) ?_
  refine lv_iconst (v := 2) hx hb dJ13_bitCount_95d88_16 (by decide) ?_
  refine lv_lushr hx hb dJ13_bitCount_95d88_17 rfl ?_
  refine lv_topl (fun x5 ex5 => ?_)
  refine lv_ldc2 (v := 3689348814741910323) hx hb hown (hts (.constantLong RJ13 316 (3689348814741910323)) (by decide +kernel)) dJ13_bitCount_95d88_18 ?_
  refine lv_land hx hb dJ13_bitCount_95d88_21 ?_
  refine lv_topl (fun x6 ex6 => ?_)
  refine lv_ladd hx hb dJ13_bitCount_95d88_22 ?_
  refine lv_topl (fun x7 ex7 => ?_)
  refine lv_lstore_n (lv' := [(0, .long x7)]) hx hb dJ13_bitCount_95d88_23 rfl hl (by decide) rfl (fun ls hl => ?_)
  refine lv_lload_n hx hb dJ13_bitCount_95d88_24 rfl (lv_at hl 0 rfl) ?_
  refine lv_lload_n hx hb dJ13_bitCount_95d88_25 rfl (lv_at hl 0 rfl) ?_
  refine lv_iconst (v := 4) hx hb dJ13_bitCount_95d88_26 (by decide) ?_
  refine lv_lushr hx hb dJ13_bitCount_95d88_27 rfl ?_
  refine lv_topl (fun x8 ex8 => ?_)
  refine lv_ladd hx hb dJ13_bitCount_95d88_28 ?_
  refine lv_topl (fun x9 ex9 => ?_)
  refine lv_ldc2 (v := 1085102592571150095) hx hb hown (hts (.constantLong RJ13 318 (1085102592571150095)) (by decide +kernel)) dJ13_bitCount_95d88_29 ?_
  refine lv_land hx hb dJ13_bitCount_95d88_32 ?_
  refine lv_topl (fun x10 ex10 => ?_)
  refine lv_lstore_n (lv' := [(0, .long x10)]) hx hb dJ13_bitCount_95d88_33 rfl hl (by decide) rfl (fun ls hl => ?_)
  refine lv_lload_n hx hb dJ13_bitCount_95d88_34 rfl (lv_at hl 0 rfl) ?_
  refine lv_lload_n hx hb dJ13_bitCount_95d88_35 rfl (lv_at hl 0 rfl) ?_
  refine lv_bipush (v := 8) hx hb dJ13_bitCount_95d88_36 (by decide) ?_
  refine lv_lushr hx hb dJ13_bitCount_95d88_38 rfl ?_
  refine lv_topl (fun x11 ex11 => ?_)
  refine lv_ladd hx hb dJ13_bitCount_95d88_39 ?_
  refine lv_topl (fun x12 ex12 => ?_)
  refine lv_lstore_n (lv' := [(0, .long x12)]) hx hb dJ13_bitCount_95d88_40 rfl hl (by decide) rfl (fun ls hl => ?_)
  refine lv_lload_n hx hb dJ13_bitCount_95d88_41 rfl (lv_at hl 0 rfl) ?_
  refine lv_lload_n hx hb dJ13_bitCount_95d88_42 rfl (lv_at hl 0 rfl) ?_
  refine lv_bipush (v := 16) hx hb dJ13_bitCount_95d88_43 (by decide) ?_
  refine lv_lushr hx hb dJ13_bitCount_95d88_45 rfl ?_
  refine lv_topl (fun x13 ex13 => ?_)
  refine lv_ladd hx hb dJ13_bitCount_95d88_46 ?_
  refine lv_topl (fun x14 ex14 => ?_)
  refine lv_lstore_n (lv' := [(0, .long x14)]) hx hb dJ13_bitCount_95d88_47 rfl hl (by decide) rfl (fun ls hl => ?_)
  refine lv_lload_n hx hb dJ13_bitCount_95d88_48 rfl (lv_at hl 0 rfl) ?_
  refine lv_lload_n hx hb dJ13_bitCount_95d88_49 rfl (lv_at hl 0 rfl) ?_
  refine lv_bipush (v := 32) hx hb dJ13_bitCount_95d88_50 (by decide) ?_
  refine lv_lushr hx hb dJ13_bitCount_95d88_52 rfl ?_
  refine lv_topl (fun x15 ex15 => ?_)
  refine lv_ladd hx hb dJ13_bitCount_95d88_53 ?_
  refine lv_topl (fun x16 ex16 => ?_)
  refine lv_lstore_n (lv' := [(0, .long x16)]) hx hb dJ13_bitCount_95d88_54 rfl hl (by decide) rfl (fun ls hl => ?_)
  refine lv_lload_n hx hb dJ13_bitCount_95d88_55 rfl (lv_at hl 0 rfl) ?_
  refine lv_l2i hx hb dJ13_bitCount_95d88_56 rfl ?_
  refine lv_topi (fun x17 ex17 => ?_)
  refine lv_bipush (v := 127) hx hb dJ13_bitCount_95d88_57 (by decide) ?_
  refine lv_iand hx hb dJ13_bitCount_95d88_59 ?_
  refine lv_topi (fun x18 ex18 => ?_)
  exact W.iret (v := x18) hx hb hr (fun t ht hW => ⟨⟨x18, (), rfl, trivial, by rw [ht]; exact hP, hD⟩, hS.F ht⟩) hS.2.2 dJ13_bitCount_95d88_60
def wq_x_hadd : List Cond := [.code yX2_add cX2_add 4 none, .fieldLink RX2 9 "ServiceTree$History" "kept" "[J", .fieldLink RX2 15 "ServiceTree$History" "size" "I", .constantLong RX2 25 (512), .methodLink RX2 19 yJ9_floorMod_7cf53, .static yJ9_floorMod_7cf53, .initialized RJ9] ++ (wsX20 ++ (wq_x_floorMod))
theorem in_x_hadd_X2 : ∀ w ∈ wsX20, w ∈ wq_x_hadd := fun _ h => List.mem_append_right _ (List.mem_append_left _ (h))
set_option maxRecDepth 20000 in
theorem wi_x_hadd : ∀ w ∈ wq_x_hadd, w ∈ lw_tbl := List.forall_mem_append.mpr ⟨(by decide +kernel), List.forall_mem_append.mpr ⟨inKX2, wi_x_floorMod⟩⟩
set_option maxRecDepth 20000 in
theorem wg_x_hadd : GoodIn wq_x_hadd wq_x_hadd := goodIn_sub (fun _ h => h) (by decide +kernel)
set_option maxRecDepth 20000 in
theorem wc_x_hadd_x_floorMod_19 : GoodIn wq_x_hadd (va_wsS RX2 19 yJ9_floorMod_7cf53 wq_x_floorMod) := goodIn_app (goodIn_of _ (by decide +kernel)) (fun w h => ⟨List.mem_append_right _ (List.mem_append_right _ (h)), (wg_x_floorMod w h).2⟩)
def rm_x_hadd : Room := { frames := 1, cells := 0, slots := 0, locals := 22 }
set_option maxHeartbeats 4000000 in
set_option maxRecDepth 100000 in
theorem c_x_hadd (l : Launch) (dC : Nat → ClassId) (dI : Nat → Nat → Nat) (h : Nat) (a : Nat → Nat) (e : Nat) (cI cJ cO cE : ClassId) (L : Nat → Int64) (I : Nat → Int32) (M : Nat → Nat → Int64) (J : Nat → Nat → Int32) (n cap : Nat) (fE : Nat → Option Nat) (sd : Nat → Nat → Nat) (si : Nat → Nat → Int32) (sa : Nat → Nat → Nat → Int32) (dl : Nat → Nat) (b : Nat) (p0 : Int32) (p1 : Int32) (p2 : Int32) (sz : Nat) (hX0 : InvX n cap fE sd dl b I J si) (hb0 : b + 1 < 2147483648)  : Met l yX2_add wq_x_hadd rm_x_hadd (va_Pc [.ref (a 5), .int p0, .int p1, .int p2] (fun U => U.heap.size = sz ∧ va_P (dC, dI) vwCl (xW h a e cI cJ cO cE L I M J n cap fE sd si sa dl) U.heap ∧ va_K (dC, dI) vwCl (xT cI cJ cO cE) U ∧ va_D (fun _ => True) (xW h a e cI cJ cO cE L I M J n cap fE sd si sa dl) ∧ pw_N U)) (va_Qv (fun (u : (Nat → Int32) × (Nat → Nat → Int64)) => InvX n cap fE sd dl (b + 1) u.1 J si ∧ (∀ j9 : Nat, j9 ∉ ([12] : List Nat) → u.1 j9 = I j9) ∧ (∀ j9 : Nat, j9 ∉ ([8] : List Nat) → u.2 j9 = M j9) ∧ (True)) (fun (u : (Nat → Int32) × (Nat → Nat → Int64)) (t : State) => va_P (dC, dI) vwCl (xW h a e cI cJ cO cE L u.1 u.2 J n cap fE sd si sa dl) t.heap ∧ va_D (va_A (xW h a e cI cJ cO cE L I M J n cap fE sd si sa dl) sz) (xW h a e cI cJ cO cE L u.1 u.2 J n cap fE sd si sa dl)) (va_A (xW h a e cI cJ cO cE L I M J n cap fE sd si sa dl) sz)) 0 0 (va_A (xW h a e cI cJ cO cE L I M J n cap fE sd si sa dl) sz) := by
  have hn : n ≤ 40 := hX0.1.1
  have hX := hX0
  have hUI : ∀ j9 : Nat, j9 ∉ ([12] : List Nat) → I j9 = I j9 := fun _ _ => rfl
  have hUM : ∀ j9 : Nat, j9 ∉ ([8] : List Nat) → M j9 = M j9 := fun _ _ => rfl
  refine Met.ofW (cc := cX2_add) (maxL := 4) (ret := none) (by decide) rfl ?_
  intro p e9 s m args below meth c s₁ B hml hv
  obtain ⟨rfl, hsz, hP, hK, hD0, hN⟩ := hv
  have hx := B.exec
  have hb := B.bytes
  have hr := B.returns
  have hts := atoms_spec (ws := wq_x_hadd) B.pre
  have hown : s.vm.findClass RX2 = some m.cls := findClass_of_methodNamed B.named
  have hlocks := B.notSynchronized
  subst hsz
  have hD := hD0.self (sz := s.heap.size)
  generalize hAe : va_A (xW h a e cI cJ cO cE L I M J n cap fE sd si sa dl) s.heap.size = A at hD ⊢
  have hA : ∀ q : Nat, s.heap.size ≤ q → A q := fun q h => by rw [← hAe]; exact Or.inr h
  have hS : va_S A s.heap s.heap [] := va_S.rf
  have hl := lv_entry ([.ref (a 5), .int p0, .int p1, .int p2]) (n := 4) (Nat.le_of_ble_eq_true rfl)
  rw [lg_entry_eq]
  generalize (lg_sl ([.ref (a 5), .int p0, .int p1, .int p2]) ++ List.replicate (4 - (lg_sl ([.ref (a 5), .int p0, .int p1, .int p2])).length) Slot.unset).toArray = ls at hl ⊢
  have hl : lv_has ls 4 [(0, .ref (a 5)), (1, .int p0), (2, .int p1), (3, .int p2)] := hl
  refine lv_aload_n hx hb dX2_add_0 rfl (lv_at hl 0 rfl) ?_
  refine va_get (D := (dC, dI)) (ci := 3) (v := .ref (a 15)) (C := RX2) (T := TX2) (N := 2) hx hb hts in_x_hadd_X2 hown hK hP 19 rfl rfl 0 (by decide) (hts (.fieldLink RX2 9 "ServiceTree$History" "kept" "[J") (by decide +kernel)) (fun _ h9 => h9) rfl dX2_add_1 ?_
  refine lv_aload_n hx hb dX2_add_4 rfl (lv_at hl 0 rfl) ?_
  refine va_get (D := (dC, dI)) (ci := 3) (v := .int (I 12)) (C := RX2) (T := TX2) (N := 2) hx hb hts in_x_hadd_X2 hown hK hP 19 rfl rfl 1 (by decide) (hts (.fieldLink RX2 15 "ServiceTree$History" "size" "I") (by decide +kernel)) (fun _ h9 => h9) rfl dX2_add_5 ?_
  obtain ⟨z1, hz1, ez1⟩ := hX.2.1.2
  refine p1_topr (v := .int (nI z1)) (congrArg Value.int ez1) ?_
  refine lv_sipush (v := 2000) hx hb dX2_add_8 (by decide) ?_
  have hFc := mw_free hD hS hA
  refine va_calli (va_runS (As := [.int (nI z1), .int 2000]) (rest := [.ref (a 15)]) ⟨hx, hb, hml, hown, hts⟩ (c_x_floorMod l dC dI h a e cI cJ cO cE L I M J n cap fE sd si sa dl (b) z1 s.heap.size hX (by omega) (by omega)) (va_cwS 2 hts wc_x_hadd_x_floorMod_19 rfl rfl rfl (by decide +kernel) ⟨Nat.le_of_ble_eq_true rfl, Nat.le_of_ble_eq_true rfl⟩) ⟨fun a9 U g mk q => by obtain ⟨q0, q1, qP, qK, qD, qN⟩ := q; exact ⟨q0, q1, qP, va_K.moved (u := U) (U := U.calling g mk a9) (Vm.Alike.refl U.vm) qK, qD, pw_N.same (u := U) (U := U.calling g mk a9) rfl qN⟩, fun U hU hW => ⟨rfl, by rw [hU], by rw [hU]; exact hP, va_K.moved hW.alike hK, hD.weaken (fun _ _ _ _ => trivial), pw_N.warm hW hN⟩⟩ rfl rfl hl.1 rfl (lv_room (Nat.le_of_ble_eq_true rfl)) dX2_add_11 ⟨Nat.le_of_ble_eq_true rfl, Nat.le_of_ble_eq_true rfl⟩) hS (fun q _ h => hFc q h) hFc (fun r2 u t H1 locs ht hvm hw hB hz1 hk1 hS => ?_)
  replace hP := hB.1
  rw [ht] at hP
  replace hD : va_D A (xW h a e cI cJ cO cE L I M J n cap fE sd si sa dl) := hB.2.weaken (fun _ q _ h9 => hFc q.1 h9)
  clear hB
  generalize H1 = H at hP hS ⊢
  replace hP : va_P (dC, dI) vwCl (xW h a e cI cJ cO cE L I M J n cap fE sd si sa dl) H := hP
  obtain ⟨j3, hj3, rfl⟩ := hw
  refine lv_iload_n hx hb dX2_add_14 rfl (lv_at hl 1 rfl) ?_
  refine lv_i2l hx hb dX2_add_15 rfl ?_
  refine lv_topl (fun x4 ex4 => ?_)
  refine lv_ldc2 (v := 512) hx hb hown (hts (.constantLong RX2 25 (512)) (by decide +kernel)) dX2_add_16 ?_
  refine lv_lmul hx hb dX2_add_19 ?_
  refine lv_topl (fun x5 ex5 => ?_)
  refine lv_iload_n hx hb dX2_add_20 rfl (lv_at hl 2 rfl) ?_
  refine lv_bipush (v := 8) hx hb dX2_add_21 (by decide) ?_
  refine lv_imul hx hb dX2_add_23 ?_
  refine lv_topi (fun x6 ex6 => ?_)
  refine lv_i2l hx hb dX2_add_24 rfl ?_
  refine lv_topl (fun x7 ex7 => ?_)
  refine lv_ladd hx hb dX2_add_25 ?_
  refine lv_topl (fun x8 ex8 => ?_)
  refine lv_iload_n hx hb dX2_add_26 rfl (lv_at hl 3 rfl) ?_
  refine lv_i2l hx hb dX2_add_27 rfl ?_
  refine lv_topl (fun x9 ex9 => ?_)
  refine lv_ladd hx hb dX2_add_28 ?_
  refine lv_topl (fun x10 ex10 => ?_)
  refine va_last (n := 2000) (f := M 8) hx hb hK hP hD hS 20 1 rfl rfl (vp_in_nI (n := j3) (by omega) (by omega)) dX2_add_29 (fun H locs hP hD hS => ?_)
  rw [xM_8] at hP hD
  obtain ⟨M11, eM11⟩ : ∃ f9 : Nat → Nat → Int64, f9 = va_up M 8 (vp_updL (M 8) (nI j3).toNatClampNeg x10) := ⟨_, rfl⟩
  rw [← eM11] at hP hD
  replace hUM : ∀ j9 : Nat, j9 ∉ ([8] : List Nat) → M11 j9 = M j9 := by rw [eM11]; exact mw_up (by decide) hUM
  refine lv_aload_n hx hb dX2_add_30 rfl (lv_at hl 0 rfl) ?_
  refine lv_dup hx hb dX2_add_31 rfl ?_
  refine va_get (D := (dC, dI)) (ci := 3) (v := .int (I 12)) (C := RX2) (T := TX2) (N := 2) hx hb hts in_x_hadd_X2 hown hK hP 19 rfl rfl 1 (by decide) (hts (.fieldLink RX2 15 "ServiceTree$History" "size" "I") (by decide +kernel)) (fun _ h9 => h9) rfl dX2_add_32 ?_
  refine p1_topr (v := .int (nI z1)) (congrArg Value.int ez1) ?_
  refine lv_iconst (v := 1) hx hb dX2_add_35 (by decide) ?_
  refine lv_iadd hx hb dX2_add_36 ?_
  refine p1_topr (v := .int (nI (z1 + 1))) (congrArg Value.int (nI_add z1 1)) ?_
  refine va_put (D := (dC, dI)) (ci := 3) (fs := [.ref (a 15), .int (I 12)]) (v := .int (nI (z1 + 1))) (ty := .int) (C := RX2) (T := TX2) (N := 2) hx hb hts in_x_hadd_X2 tyX2 tyX2_ok nmX2 hown hK hP hD hS 19 rfl rfl 1 (by decide) (hts (.fieldLink RX2 15 "ServiceTree$History" "size" "I") (by decide +kernel)) (fun _ h9 => h9) rfl (by decide +kernel) rfl rfl (Nat.le_of_ble_eq_true rfl) dX2_add_37 (fun H locs hP hD hS => ?_)
  replace hP : va_P (dC, dI) vwCl ((xW h a e cI cJ cO cE L I M11 J n cap fE sd si sa dl).set 19 (a 5, .inr (3, [.ref (a 15), .int (nI (z1 + 1))]))) H := hP
  replace hD : va_D A ((xW h a e cI cJ cO cE L I M11 J n cap fE sd si sa dl).set 19 (a 5, .inr (3, [.ref (a 15), .int (nI (z1 + 1))]))) := hD
  rw [xF_I12] at hP hD
  obtain ⟨I12, eI12⟩ : ∃ f9 : Nat → Int32, f9 = va_up I 12 (nI (z1 + 1)) := ⟨_, rfl⟩
  rw [← eI12] at hP hD
  replace hX := hX.mono (show b ≤ b + 1 by omega)
  replace hX : InvX n cap fE sd dl (b + 1) I12 J si := by rw [eI12]; exact hX.set12 (x := z1 + 1) (by omega)
  replace hUI : ∀ j9 : Nat, j9 ∉ ([12] : List Nat) → I12 j9 = I j9 := by rw [eI12]; exact mw_up (by decide) hUI
  exact W.vret hx hb hr (fun t ht hW => ⟨⟨(I12, M11), rfl, ⟨hX.mono (by omega), hUI, hUM, trivial⟩, by rw [ht]; exact hP, hD⟩, hS.F ht⟩) hS.2.2 dX2_add_40
def wq_x_least : List Cond := [.code yX1_least cX1_least 3 (some .int), .initialized RX8, .static yX8_holds] ++ (wq_x_holds)
set_option maxRecDepth 20000 in
theorem wi_x_least : ∀ w ∈ wq_x_least, w ∈ lw_tbl := List.forall_mem_append.mpr ⟨(by decide +kernel), wi_x_holds⟩
set_option maxRecDepth 20000 in
theorem wg_x_least : GoodIn wq_x_least wq_x_least := goodIn_sub (fun _ h => h) (by decide +kernel)
theorem wc_x_least_x_holds_76 : GoodIn wq_x_least wq_x_holds := (fun w h => ⟨List.mem_append_right _ (h), (wg_x_holds w h).2⟩)
def rm_x_least : Room := { frames := 1, cells := 0, slots := 0, locals := 22 }
set_option maxHeartbeats 4000000 in
set_option maxRecDepth 100000 in
theorem c_x_least (l : Launch) (dC : Nat → ClassId) (dI : Nat → Nat → Nat) (h : Nat) (a : Nat → Nat) (e : Nat) (cI cJ cO cE : ClassId) (L : Nat → Int64) (I : Nat → Int32) (M : Nat → Nat → Int64) (J : Nat → Nat → Int32) (n cap : Nat) (fE : Nat → Option Nat) (sd : Nat → Nat → Nat) (si : Nat → Nat → Int32) (sa : Nat → Nat → Nat → Int32) (dl : Nat → Nat) (b : Nat) (p0 : Int64) (sz : Nat) (hX0 : InvX n cap fE sd dl b I J si) (hb0 : b + 0 < 2147483648)  : Met l yX1_least wq_x_least rm_x_least (va_Pc [.long p0] (fun U => U.heap.size = sz ∧ va_P (dC, dI) vwCl (xW h a e cI cJ cO cE L I M J n cap fE sd si sa dl) U.heap ∧ va_K (dC, dI) vwCl (xT cI cJ cO cE) U ∧ va_D (fun _ => True) (xW h a e cI cJ cO cE L I M J n cap fE sd si sa dl) ∧ pw_N U)) (va_Qi (fun (r : Int32) (u : Unit) => (True)) (fun (u : Unit) (t : State) => va_P (dC, dI) vwCl (xW h a e cI cJ cO cE L I M J n cap fE sd si sa dl) t.heap ∧ va_D (va_A (xW h a e cI cJ cO cE L I M J n cap fE sd si sa dl) sz) (xW h a e cI cJ cO cE L I M J n cap fE sd si sa dl)) (va_A (xW h a e cI cJ cO cE L I M J n cap fE sd si sa dl) sz)) 0 0 (va_A (xW h a e cI cJ cO cE L I M J n cap fE sd si sa dl) sz) := by
  have hn : n ≤ 40 := hX0.1.1
  have hX := hX0
  refine Met.ofW (cc := cX1_least) (maxL := 3) (ret := (some .int)) (by decide) rfl ?_
  intro p e9 s m args below meth c s₁ B hml hv
  obtain ⟨rfl, hsz, hP, hK, hD0, hN⟩ := hv
  have hx := B.exec
  have hb := B.bytes
  have hr := B.returns
  have hts := atoms_spec (ws := wq_x_least) B.pre
  have hown : s.vm.findClass RX1 = some m.cls := findClass_of_methodNamed B.named
  have hlocks := B.notSynchronized
  subst hsz
  have hD := hD0.self (sz := s.heap.size)
  generalize hAe : va_A (xW h a e cI cJ cO cE L I M J n cap fE sd si sa dl) s.heap.size = A at hD ⊢
  have hA : ∀ q : Nat, s.heap.size ≤ q → A q := fun q h => by rw [← hAe]; exact Or.inr h
  have hS : va_S A s.heap s.heap [] := va_S.rf
  have hl := lv_entry ([.long p0]) (n := 3) (Nat.le_of_ble_eq_true rfl)
  rw [lg_entry_eq]
  generalize (lg_sl ([.long p0]) ++ List.replicate (3 - (lg_sl ([.long p0])).length) Slot.unset).toArray = ls at hl ⊢
  have hl : lv_has ls 3 [(0, .long p0)] := hl
  refine mw_Q (fun Q0 hQ => ?_)
  refine lv_iconst (v := 0) hx hb dX1_least_0 (by decide) ?_
  refine lv_istore_n (lv' := [(2, .int 0), (0, .long p0)]) hx hb dX1_least_1 rfl hl (by decide) rfl (fun ls hl => ?_)
  have lp4 : ∀ (fu2 i1 : Nat)   (H : Heap) (locs : List Loc) (ls : Array Slot), 40 < i1 + fu2 → i1 ≤ 40 → va_P (dC, dI) vwCl (xW h a e cI cJ cO cE L I M J n cap fE sd si sa dl) H → va_D A (xW h a e cI cJ cO cE L I M J n cap fE sd si sa dl) → va_S A s.heap H locs → lv_has ls 3 [(2, .int (nI i1)), (0, .long p0)] → W p l e9 (headSpec wq_x_least rm_x_least).room s m ([.long p0] : List Value).toArray below meth c H locs 0 0 Q0 (F0 m 2 ls []) := by
    intro fu2
    induction fu2 with
    | zero =>
      intro i1   H locs ls hf hi
      exact absurd hf (by omega)
    | succ fu2 ih3 =>
      intro i1   H locs ls hfi1 hii1 hP hD hS hl
      refine lv_iload_n hx hb dX1_least_2 rfl (lv_at hl 0 rfl) ?_
      refine lv_bipush (v := 40) hx hb dX1_least_3 (by decide) ?_
      refine lv_icmp_ge (tgt := 24) hx hb dX1_least_5 (by decide) (fun c5 => ?_) (fun c5 => ?_)
      · replace c5 : 40 ≤ i1 := (nI_leI (a := 40) (b := i1) (by omega) (by omega)).mp c5
        refine lv_iconst (v := (-1)) hx hb dX1_least_24 (by decide) ?_
        rw [hQ]
        exact W.iret (v := (-1)) hx hb hr (fun t ht hW => ⟨⟨(-1), (), rfl, trivial, by rw [ht]; exact hP, hD⟩, hS.F ht⟩) hS.2.2 dX1_least_25
      · replace c5 : ¬ (40 ≤ i1) := fun q9 => c5 ((nI_leI (a := 40) (b := i1) (by omega) (by omega)).mpr q9)
        refine lv_lload_n hx hb dX1_least_8 rfl (lv_at hl 1 rfl) ?_
        refine lv_iload_n hx hb dX1_least_9 rfl (lv_at hl 0 rfl) ?_
        have hFc := mw_free hD hS hA
        refine va_calli (va_runSN (As := [.long p0, .int (nI i1)]) (rest := []) ⟨hx, hb, hml, hown, hts⟩ (c_x_holds l dC dI h a e cI cJ cO cE L I M J n cap fE sd si sa dl (b) p0 (nI i1) H.size hX (by omega) ) ⟨va_cnB 2 hts wc_x_least_x_holds_76 rfl rfl rfl (hN (.methodLinkNest RX1 76 yX8_holds "ServiceTree") (by decide +kernel)) (hts (.initialized RX8) (by decide +kernel)) (by decide +kernel) ⟨Nat.le_of_ble_eq_true rfl, Nat.le_of_ble_eq_true rfl⟩, hts (.static yX8_holds) (by decide +kernel), trivial⟩ ⟨fun a9 U g mk q => by obtain ⟨q0, q1, qP, qK, qD, qN⟩ := q; exact ⟨q0, q1, qP, va_K.moved (u := U) (U := U.calling g mk a9) (Vm.Alike.refl U.vm) qK, qD, pw_N.same (u := U) (U := U.calling g mk a9) rfl qN⟩, fun U hU hW => ⟨rfl, by rw [hU], by rw [hU]; exact hP, va_K.moved hW.alike hK, hD.weaken (fun _ _ _ _ => trivial), pw_N.warm hW hN⟩⟩ rfl rfl hl.1 rfl (lv_room (Nat.le_of_ble_eq_true rfl)) dX1_least_10 ⟨Nat.le_of_ble_eq_true rfl, Nat.le_of_ble_eq_true rfl⟩) hS (fun q _ h => hFc q h) hFc (fun r6 u t H1 locs ht hvm hw hB hz1 hk1 hS => ?_)
        replace hP := hB.1
        rw [ht] at hP
        replace hD : va_D A (xW h a e cI cJ cO cE L I M J n cap fE sd si sa dl) := hB.2.weaken (fun _ q _ h9 => hFc q.1 h9)
        clear hB
        generalize H1 = H at hP hS ⊢
        replace hP : va_P (dC, dI) vwCl (xW h a e cI cJ cO cE L I M J n cap fE sd si sa dl) H := hP
        have br6 := hw
        refine lv_if_eq (tgt := 18) hx hb dX1_least_13 (by decide) (fun c7 => ?_) (fun c7 => ?_)
        · refine lv_iinc (v := (nI (i1 + 1))) (lv' := [(2, .int (nI (i1 + 1))), (0, .long p0)]) hx hb dX1_least_18 hl (k := 0) rfl (nI_add i1 1) (by decide) rfl (fun ls hl => ?_)
          refine lv_goto (tgt := 2) hx hb dX1_least_21 (by decide) ?_
          exact ih3 (i1 + 1)   _ _ _ (by omega) (by omega)  hP hD hS (lv_sub hl [0, 1] rfl)
        · refine lv_iload_n hx hb dX1_least_16 rfl (lv_at hl 0 rfl) ?_
          rw [hQ]
          exact W.iret (v := (nI i1)) hx hb hr (fun t ht hW => ⟨⟨(nI i1), (), rfl, trivial, by rw [ht]; exact hP, hD⟩, hS.F ht⟩) hS.2.2 dX1_least_17
  exact lp4 (40 + 1) 0   _ _ _ (by omega) (by omega)  hP hD hS hl
def wq_x_gatherNeeded : List Cond := [.code yX1_gatherNeeded cX1_gatherNeeded 4 (some .int), .fieldLink RX1 9 "ServiceTree$Draft" "relations" "LServiceTree$Relations;", .initialized RX8, .static yX8_only, .fieldLink RX1 15 "ServiceTree$Draft" "members" "J", .fieldLink RX1 53 "ServiceTree$Draft" "ringSize" "I", .methodLink RX1 62 yX5_withNeeded, .instanceMethod yX5_withNeeded, .selects RX5 yX5_withNeeded yX5_withNeeded, .initialized RX5, .methodLink RX1 66 yX5_clash, .instanceMethod yX5_clash, .selects RX5 yX5_clash yX5_clash, .methodLink RX1 49 yX5_shortestRing, .instanceMethod yX5_shortestRing, .selects RX5 yX5_shortestRing yX5_shortestRing] ++ (wsX10 ++ (wq_x_only ++ (wq_x_withNeeded ++ (wq_x_clash ++ (wq_x_shortestRing)))))
theorem in_x_gatherNeeded_X1 : ∀ w ∈ wsX10, w ∈ wq_x_gatherNeeded := fun _ h => List.mem_append_right _ (List.mem_append_left _ (h))
set_option maxRecDepth 20000 in
theorem wi_x_gatherNeeded : ∀ w ∈ wq_x_gatherNeeded, w ∈ lw_tbl := List.forall_mem_append.mpr ⟨(by decide +kernel), List.forall_mem_append.mpr ⟨inKX1, List.forall_mem_append.mpr ⟨wi_x_only, List.forall_mem_append.mpr ⟨wi_x_withNeeded, List.forall_mem_append.mpr ⟨wi_x_clash, wi_x_shortestRing⟩⟩⟩⟩⟩
set_option maxRecDepth 20000 in
theorem wg_x_gatherNeeded : GoodIn wq_x_gatherNeeded wq_x_gatherNeeded := goodIn_sub (fun _ h => h) (by decide +kernel)
theorem wc_x_gatherNeeded_x_only_19 : GoodIn wq_x_gatherNeeded wq_x_only := (fun w h => ⟨List.mem_append_right _ (List.mem_append_right _ (List.mem_append_left _ (h))), (wg_x_only w h).2⟩)
set_option maxRecDepth 20000 in
theorem wc_x_gatherNeeded_x_withNeeded_62 : GoodIn wq_x_gatherNeeded (wsV RX1 62 RX5 yX5_withNeeded wq_x_withNeeded) := goodIn_app (goodIn_of _ (by decide +kernel)) (fun w h => ⟨List.mem_append_right _ (List.mem_append_right _ (List.mem_append_right _ (List.mem_append_left _ (h)))), (wg_x_withNeeded w h).2⟩)
set_option maxRecDepth 20000 in
theorem wc_x_gatherNeeded_x_clash_66 : GoodIn wq_x_gatherNeeded (wsV RX1 66 RX5 yX5_clash wq_x_clash) := goodIn_app (goodIn_of _ (by decide +kernel)) (fun w h => ⟨List.mem_append_right _ (List.mem_append_right _ (List.mem_append_right _ (List.mem_append_right _ (List.mem_append_left _ (h))))), (wg_x_clash w h).2⟩)
set_option maxRecDepth 20000 in
theorem wc_x_gatherNeeded_x_shortestRing_49 : GoodIn wq_x_gatherNeeded (wsV RX1 49 RX5 yX5_shortestRing wq_x_shortestRing) := goodIn_app (goodIn_of _ (by decide +kernel)) (fun w h => ⟨List.mem_append_right _ (List.mem_append_right _ (List.mem_append_right _ (List.mem_append_right _ (List.mem_append_right _ (h))))), (wg_x_shortestRing w h).2⟩)
def rm_x_gatherNeeded : Room := { frames := 4, cells := 0, slots := 0, locals := 104 }
set_option maxHeartbeats 4000000 in
set_option maxRecDepth 100000 in
theorem c_x_gatherNeeded (l : Launch) (dC : Nat → ClassId) (dI : Nat → Nat → Nat) (h : Nat) (a : Nat → Nat) (e : Nat) (cI cJ cO cE : ClassId) (L : Nat → Int64) (I : Nat → Int32) (M : Nat → Nat → Int64) (J : Nat → Nat → Int32) (n cap : Nat) (fE : Nat → Option Nat) (sd : Nat → Nat → Nat) (si : Nat → Nat → Int32) (sa : Nat → Nat → Nat → Int32) (dl : Nat → Nat) (b : Nat) (p0 : Int32) (p1 : Int64) (sz : Nat) (hX0 : InvX n cap fE sd dl b I J si) (hb0 : b + 0 < 2147483648)  : Met l yX1_gatherNeeded wq_x_gatherNeeded rm_x_gatherNeeded (va_Pc [.ref (a 2), .int p0, .long p1] (fun U => U.heap.size = sz ∧ va_P (dC, dI) vwCl (xW h a e cI cJ cO cE L I M J n cap fE sd si sa dl) U.heap ∧ va_K (dC, dI) vwCl (xT cI cJ cO cE) U ∧ va_D (fun _ => True) (xW h a e cI cJ cO cE L I M J n cap fE sd si sa dl) ∧ pw_N U)) (va_Qi (fun (r : Int32) (u : (Nat → Int64) × (Nat → Int32)) => InvX n cap fE sd dl (b + 0) u.2 J si ∧ (∀ j9 : Nat, j9 ∉ ([2] : List Nat) → u.1 j9 = L j9) ∧ (∀ j9 : Nat, j9 ∉ ([8] : List Nat) → u.2 j9 = I j9) ∧ (True)) (fun (u : (Nat → Int64) × (Nat → Int32)) (t : State) => va_P (dC, dI) vwCl (xW h a e cI cJ cO cE u.1 u.2 M J n cap fE sd si sa dl) t.heap ∧ va_D (va_A (xW h a e cI cJ cO cE L I M J n cap fE sd si sa dl) sz) (xW h a e cI cJ cO cE u.1 u.2 M J n cap fE sd si sa dl)) (va_A (xW h a e cI cJ cO cE L I M J n cap fE sd si sa dl) sz)) 0 0 (va_A (xW h a e cI cJ cO cE L I M J n cap fE sd si sa dl) sz) := by
  have hn : n ≤ 40 := hX0.1.1
  have hX := hX0
  have hUL : ∀ j9 : Nat, j9 ∉ ([2] : List Nat) → L j9 = L j9 := fun _ _ => rfl
  have hUI : ∀ j9 : Nat, j9 ∉ ([8] : List Nat) → I j9 = I j9 := fun _ _ => rfl
  refine Met.ofW (cc := cX1_gatherNeeded) (maxL := 4) (ret := (some .int)) (by decide) rfl ?_
  intro p e9 s m args below meth c s₁ B hml hv
  obtain ⟨rfl, hsz, hP, hK, hD0, hN⟩ := hv
  have hx := B.exec
  have hb := B.bytes
  have hr := B.returns
  have hts := atoms_spec (ws := wq_x_gatherNeeded) B.pre
  have hown : s.vm.findClass RX1 = some m.cls := findClass_of_methodNamed B.named
  have hlocks := B.notSynchronized
  subst hsz
  have hD := hD0.self (sz := s.heap.size)
  generalize hAe : va_A (xW h a e cI cJ cO cE L I M J n cap fE sd si sa dl) s.heap.size = A at hD ⊢
  have hA : ∀ q : Nat, s.heap.size ≤ q → A q := fun q h => by rw [← hAe]; exact Or.inr h
  have hS : va_S A s.heap s.heap [] := va_S.rf
  have hl := lv_entry ([.ref (a 2), .int p0, .long p1]) (n := 4) (Nat.le_of_ble_eq_true rfl)
  rw [lg_entry_eq]
  generalize (lg_sl ([.ref (a 2), .int p0, .long p1]) ++ List.replicate (4 - (lg_sl ([.ref (a 2), .int p0, .long p1])).length) Slot.unset).toArray = ls at hl ⊢
  have hl : lv_has ls 4 [(0, .ref (a 2)), (1, .int p0), (2, .long p1)] := hl
  refine lv_aload_n hx hb dX1_gatherNeeded_0 rfl (lv_at hl 0 rfl) ?_
  refine lv_aload_n hx hb dX1_gatherNeeded_1 rfl (lv_at hl 0 rfl) ?_
  refine va_get (D := (dC, dI)) (ci := 2) (v := .ref (a 1)) (C := RX1) (T := TX1) (N := 5) hx hb hts in_x_gatherNeeded_X1 hown hK hP 13 rfl rfl 0 (by decide) (hts (.fieldLink RX1 9 "ServiceTree$Draft" "relations" "LServiceTree$Relations;") (by decide +kernel)) (fun _ h9 => h9) rfl dX1_gatherNeeded_2 ?_
  refine lv_iload_n hx hb dX1_gatherNeeded_5 rfl (lv_at hl 1 rfl) ?_
  have hFc := mw_free hD hS hA
  refine va_calll (va_runSN (As := [.int p0]) (rest := [.ref (a 1), .ref (a 2)]) ⟨hx, hb, hml, hown, hts⟩ (c_x_only l dC dI h a e cI cJ cO cE L I M J n cap fE sd si sa dl (b) p0 s.heap.size hX (by omega) ) ⟨va_cnB 1 hts wc_x_gatherNeeded_x_only_19 rfl rfl rfl (hN (.methodLinkNest RX1 19 yX8_only "ServiceTree") (by decide +kernel)) (hts (.initialized RX8) (by decide +kernel)) (by decide +kernel) ⟨Nat.le_of_ble_eq_true rfl, Nat.le_of_ble_eq_true rfl⟩, hts (.static yX8_only) (by decide +kernel), trivial⟩ ⟨fun a9 U g mk q => by obtain ⟨q0, q1, qP, qK, qD, qN⟩ := q; exact ⟨q0, q1, qP, va_K.moved (u := U) (U := U.calling g mk a9) (Vm.Alike.refl U.vm) qK, qD, pw_N.same (u := U) (U := U.calling g mk a9) rfl qN⟩, fun U hU hW => ⟨rfl, by rw [hU], by rw [hU]; exact hP, va_K.moved hW.alike hK, hD.weaken (fun _ _ _ _ => trivial), pw_N.warm hW hN⟩⟩ rfl rfl hl.1 rfl (lv_room (Nat.le_of_ble_eq_true rfl)) dX1_gatherNeeded_6 ⟨Nat.le_of_ble_eq_true rfl, Nat.le_of_ble_eq_true rfl⟩) hS (fun q _ h => hFc q h) hFc (fun r1 u t H1 locs ht hvm hw hB hz1 hk1 hS => ?_)
  replace hP := hB.1
  rw [ht] at hP
  replace hD : va_D A (xW h a e cI cJ cO cE L I M J n cap fE sd si sa dl) := hB.2.weaken (fun _ q _ h9 => hFc q.1 h9)
  clear hB
  generalize H1 = H at hP hS ⊢
  replace hP : va_P (dC, dI) vwCl (xW h a e cI cJ cO cE L I M J n cap fE sd si sa dl) H := hP
  have hFc := mw_free hD hS hA
  refine va_calll (va_runV (As := [.long r1]) (rest := [.ref (a 2)]) ⟨hx, hb, hml, hown, hts⟩ (c_x_withNeeded l dC dI h a e cI cJ cO cE L I M J n cap fE sd si sa dl (b) r1 H.size hX (by omega) ) (cwV 1 hts wc_x_gatherNeeded_x_withNeeded_62 rfl rfl rfl (by decide +kernel) ⟨Nat.le_of_ble_eq_true rfl, Nat.le_of_ble_eq_true rfl⟩) ⟨fun a9 U g mk q => by obtain ⟨q0, q1, qP, qK, qD, qN⟩ := q; exact ⟨q0, q1, qP, va_K.moved (u := U) (U := U.calling g mk a9) (Vm.Alike.refl U.vm) qK, qD, pw_N.same (u := U) (U := U.calling g mk a9) rfl qN⟩, va_recv hK hP (ci := 6) (q0 := 2) rfl rfl, fun U hU hW => ⟨rfl, by rw [hU], by rw [hU]; exact hP, va_K.moved hW.alike hK, hD.weaken (fun _ _ _ _ => trivial), pw_N.warm hW hN⟩⟩ rfl rfl hl.1 rfl (lv_room (Nat.le_of_ble_eq_true rfl)) dX1_gatherNeeded_9 ⟨Nat.le_of_ble_eq_true rfl, Nat.le_of_ble_eq_true rfl⟩) hS (fun q _ h => hFc q h) hFc (fun r2 u t H1 locs ht hvm hw hB hz1 hk1 hS => ?_)
  replace hP := hB.1
  rw [ht] at hP
  replace hD : va_D A (xW h a e cI cJ cO cE L I M J n cap fE sd si sa dl) := hB.2.weaken (fun _ q _ h9 => hFc q.1 h9)
  clear hB
  generalize H1 = H at hP hS ⊢
  replace hP : va_P (dC, dI) vwCl (xW h a e cI cJ cO cE L I M J n cap fE sd si sa dl) H := hP
  refine va_put (D := (dC, dI)) (ci := 2) (fs := [.ref (a 1), .long (L 2), .long (L 3), .long (L 4), .int (I 8)]) (v := .long r2) (ty := .long) (C := RX1) (T := TX1) (N := 5) hx hb hts in_x_gatherNeeded_X1 tyX1 tyX1_ok nmX1 hown hK hP hD hS 13 rfl rfl 1 (by decide) (hts (.fieldLink RX1 15 "ServiceTree$Draft" "members" "J") (by decide +kernel)) (fun _ h9 => h9) rfl (by decide +kernel) rfl rfl (Nat.le_of_ble_eq_true rfl) dX1_gatherNeeded_12 (fun H locs hP hD hS => ?_)
  replace hP : va_P (dC, dI) vwCl ((xW h a e cI cJ cO cE L I M J n cap fE sd si sa dl).set 13 (a 2, .inr (2, [.ref (a 1), .long r2, .long (L 3), .long (L 4), .int (I 8)]))) H := hP
  replace hD : va_D A ((xW h a e cI cJ cO cE L I M J n cap fE sd si sa dl).set 13 (a 2, .inr (2, [.ref (a 1), .long r2, .long (L 3), .long (L 4), .int (I 8)]))) := hD
  rw [xF_L2] at hP hD
  obtain ⟨L3, eL3⟩ : ∃ f9 : Nat → Int64, f9 = va_up L 2 r2 := ⟨_, rfl⟩
  rw [← eL3] at hP hD
  replace hUL : ∀ j9 : Nat, j9 ∉ ([2] : List Nat) → L3 j9 = L j9 := by rw [eL3]; exact mw_up (by decide) hUL
  refine lv_aload_n hx hb dX1_gatherNeeded_15 rfl (lv_at hl 0 rfl) ?_
  refine va_get (D := (dC, dI)) (ci := 2) (v := .ref (a 1)) (C := RX1) (T := TX1) (N := 5) hx hb hts in_x_gatherNeeded_X1 hown hK hP 13 rfl rfl 0 (by decide) (hts (.fieldLink RX1 9 "ServiceTree$Draft" "relations" "LServiceTree$Relations;") (by decide +kernel)) (fun _ h9 => h9) rfl dX1_gatherNeeded_16 ?_
  refine lv_aload_n hx hb dX1_gatherNeeded_19 rfl (lv_at hl 0 rfl) ?_
  refine va_get (D := (dC, dI)) (ci := 2) (v := .long (L3 2)) (C := RX1) (T := TX1) (N := 5) hx hb hts in_x_gatherNeeded_X1 hown hK hP 13 rfl rfl 1 (by decide) (hts (.fieldLink RX1 15 "ServiceTree$Draft" "members" "J") (by decide +kernel)) (fun _ h9 => h9) rfl dX1_gatherNeeded_20 ?_
  refine p1_topr (v := .long r2) (congrArg Value.long (by rw [eL3]; exact va_up_self _ _ _)) ?_
  have hFc := mw_free hD hS hA
  refine va_calli (va_runV (As := [.long r2]) (rest := []) ⟨hx, hb, hml, hown, hts⟩ (c_x_clash l dC dI h a e cI cJ cO cE L3 I M J n cap fE sd si sa dl (b) r2 H.size hX (by omega) ) (cwV 1 hts wc_x_gatherNeeded_x_clash_66 rfl rfl rfl (by decide +kernel) ⟨Nat.le_of_ble_eq_true rfl, Nat.le_of_ble_eq_true rfl⟩) ⟨fun a9 U g mk q => by obtain ⟨q0, q1, qP, qK, qD, qN⟩ := q; exact ⟨q0, q1, qP, va_K.moved (u := U) (U := U.calling g mk a9) (Vm.Alike.refl U.vm) qK, qD, pw_N.same (u := U) (U := U.calling g mk a9) rfl qN⟩, va_recv hK hP (ci := 6) (q0 := 2) rfl rfl, fun U hU hW => ⟨rfl, by rw [hU], by rw [hU]; exact hP, va_K.moved hW.alike hK, hD.weaken (fun _ _ _ _ => trivial), pw_N.warm hW hN⟩⟩ rfl rfl hl.1 rfl (lv_room (Nat.le_of_ble_eq_true rfl)) dX1_gatherNeeded_23 ⟨Nat.le_of_ble_eq_true rfl, Nat.le_of_ble_eq_true rfl⟩) hS (fun q _ h => hFc q h) hFc (fun r4 u t H1 locs ht hvm hw hB hz1 hk1 hS => ?_)
  replace hP := hB.1
  rw [ht] at hP
  replace hD : va_D A (xW h a e cI cJ cO cE L3 I M J n cap fE sd si sa dl) := hB.2.weaken (fun _ q _ h9 => hFc q.1 h9)
  clear hB
  generalize H1 = H at hP hS ⊢
  replace hP : va_P (dC, dI) vwCl (xW h a e cI cJ cO cE L3 I M J n cap fE sd si sa dl) H := hP
  have br4 := hw
  refine lv_if_eq (tgt := 32) hx hb dX1_gatherNeeded_26 (by decide) (fun c5 => ?_) (fun c5 => ?_)
  · refine lv_aload_n hx hb dX1_gatherNeeded_32 rfl (lv_at hl 0 rfl) ?_
    refine lv_aload_n hx hb dX1_gatherNeeded_33 rfl (lv_at hl 0 rfl) ?_
    refine va_get (D := (dC, dI)) (ci := 2) (v := .ref (a 1)) (C := RX1) (T := TX1) (N := 5) hx hb hts in_x_gatherNeeded_X1 hown hK hP 13 rfl rfl 0 (by decide) (hts (.fieldLink RX1 9 "ServiceTree$Draft" "relations" "LServiceTree$Relations;") (by decide +kernel)) (fun _ h9 => h9) rfl dX1_gatherNeeded_34 ?_
    refine lv_aload_n hx hb dX1_gatherNeeded_37 rfl (lv_at hl 0 rfl) ?_
    refine va_get (D := (dC, dI)) (ci := 2) (v := .long (L3 2)) (C := RX1) (T := TX1) (N := 5) hx hb hts in_x_gatherNeeded_X1 hown hK hP 13 rfl rfl 1 (by decide) (hts (.fieldLink RX1 15 "ServiceTree$Draft" "members" "J") (by decide +kernel)) (fun _ h9 => h9) rfl dX1_gatherNeeded_38 ?_
    refine p1_topr (v := .long r2) (congrArg Value.long (by rw [eL3]; exact va_up_self _ _ _)) ?_
    refine lv_lload_n hx hb dX1_gatherNeeded_41 rfl (lv_at hl 2 rfl) ?_
    refine lv_land hx hb dX1_gatherNeeded_42 ?_
    refine lv_topl (fun x6 ex6 => ?_)
    have hFc := mw_free hD hS hA
    refine va_calli (va_runV (As := [.long x6]) (rest := [.ref (a 2)]) ⟨hx, hb, hml, hown, hts⟩ (c_x_shortestRing l dC dI h a e cI cJ cO cE L3 I M J n cap fE sd si sa dl (b) x6 H.size hX (by omega) ) (cwV 1 hts wc_x_gatherNeeded_x_shortestRing_49 rfl rfl rfl (by decide +kernel) ⟨Nat.le_of_ble_eq_true rfl, Nat.le_of_ble_eq_true rfl⟩) ⟨fun a9 U g mk q => by obtain ⟨q0, q1, qP, qK, qD, qN⟩ := q; exact ⟨q0, q1, qP, va_K.moved (u := U) (U := U.calling g mk a9) (Vm.Alike.refl U.vm) qK, qD, pw_N.same (u := U) (U := U.calling g mk a9) rfl qN⟩, va_recv hK hP (ci := 6) (q0 := 2) rfl rfl, fun U hU hW => ⟨rfl, by rw [hU], by rw [hU]; exact hP, va_K.moved hW.alike hK, hD.weaken (fun _ _ _ _ => trivial), pw_N.warm hW hN⟩⟩ rfl rfl hl.1 rfl (lv_room (Nat.le_of_ble_eq_true rfl)) dX1_gatherNeeded_43 ⟨Nat.le_of_ble_eq_true rfl, Nat.le_of_ble_eq_true rfl⟩) hS (fun q _ h => hFc q h) hFc (fun r7 u t H1 locs ht hvm hw hB hz1 hk1 hS => ?_)
    replace hP := hB.1
    rw [ht] at hP
    replace hD : va_D A (xW h a e cI cJ cO cE L3 I M J n cap fE sd si sa dl) := hB.2.weaken (fun _ q _ h9 => hFc q.1 h9)
    clear hB
    generalize H1 = H at hP hS ⊢
    replace hP : va_P (dC, dI) vwCl (xW h a e cI cJ cO cE L3 I M J n cap fE sd si sa dl) H := hP
    refine va_put (D := (dC, dI)) (ci := 2) (fs := [.ref (a 1), .long (L3 2), .long (L3 3), .long (L3 4), .int (I 8)]) (v := .int r7) (ty := .int) (C := RX1) (T := TX1) (N := 5) hx hb hts in_x_gatherNeeded_X1 tyX1 tyX1_ok nmX1 hown hK hP hD hS 13 rfl rfl 4 (by decide) (hts (.fieldLink RX1 53 "ServiceTree$Draft" "ringSize" "I") (by decide +kernel)) (fun _ h9 => h9) rfl (by decide +kernel) rfl rfl (Nat.le_of_ble_eq_true rfl) dX1_gatherNeeded_46 (fun H locs hP hD hS => ?_)
    replace hP : va_P (dC, dI) vwCl ((xW h a e cI cJ cO cE L3 I M J n cap fE sd si sa dl).set 13 (a 2, .inr (2, [.ref (a 1), .long (L3 2), .long (L3 3), .long (L3 4), .int r7]))) H := hP
    replace hD : va_D A ((xW h a e cI cJ cO cE L3 I M J n cap fE sd si sa dl).set 13 (a 2, .inr (2, [.ref (a 1), .long (L3 2), .long (L3 3), .long (L3 4), .int r7]))) := hD
    rw [xF_I8] at hP hD
    obtain ⟨I8, eI8⟩ : ∃ f9 : Nat → Int32, f9 = va_up I 8 r7 := ⟨_, rfl⟩
    rw [← eI8] at hP hD
    replace hX : InvX n cap fE sd dl (b) I8 J si := by rw [eI8]; exact hX.setI (by decide)
    replace hUI : ∀ j9 : Nat, j9 ∉ ([8] : List Nat) → I8 j9 = I j9 := by rw [eI8]; exact mw_up (by decide) hUI
    refine lv_aload_n hx hb dX1_gatherNeeded_49 rfl (lv_at hl 0 rfl) ?_
    refine va_get (D := (dC, dI)) (ci := 2) (v := .int (I8 8)) (C := RX1) (T := TX1) (N := 5) hx hb hts in_x_gatherNeeded_X1 hown hK hP 13 rfl rfl 4 (by decide) (hts (.fieldLink RX1 53 "ServiceTree$Draft" "ringSize" "I") (by decide +kernel)) (fun _ h9 => h9) rfl dX1_gatherNeeded_50 ?_
    refine p1_topr (v := .int r7) (congrArg Value.int (by rw [eI8]; exact va_up_self _ _ _)) ?_
    refine lv_if_le (tgt := 61) hx hb dX1_gatherNeeded_53 (by decide) (fun c9 => ?_) (fun c9 => ?_)
    · refine lv_iconst (v := 0) hx hb dX1_gatherNeeded_61 (by decide) ?_
      exact W.iret (v := 0) hx hb hr (fun t ht hW => ⟨⟨0, (L3, I8), rfl, ⟨hX.mono (by omega), hUL, hUI, trivial⟩, by rw [ht]; exact hP, hD⟩, hS.F ht⟩) hS.2.2 dX1_gatherNeeded_62
    · refine lv_bipush (v := (-5)) hx hb dX1_gatherNeeded_56 (by decide) ?_
      refine lv_goto (tgt := 62) hx hb dX1_gatherNeeded_58 (by decide) ?_
      exact W.iret (v := (-5)) hx hb hr (fun t ht hW => ⟨⟨(-5), (L3, I8), rfl, ⟨hX.mono (by omega), hUL, hUI, trivial⟩, by rw [ht]; exact hP, hD⟩, hS.F ht⟩) hS.2.2 dX1_gatherNeeded_62
  · refine lv_bipush (v := (-4)) hx hb dX1_gatherNeeded_29 (by decide) ?_
    exact W.iret (v := (-4)) hx hb hr (fun t ht hW => ⟨⟨(-4), (L3, I), rfl, ⟨hX.mono (by omega), hUL, hUI, trivial⟩, by rw [ht]; exact hP, hD⟩, hS.F ht⟩) hS.2.2 dX1_gatherNeeded_31
def wq_x_gatherWanted : List Cond := [.code yX1_gatherWanted cX1_gatherWanted 9 none, .fieldLink RX1 9 "ServiceTree$Draft" "relations" "LServiceTree$Relations;", .fieldLink RX1 15 "ServiceTree$Draft" "members" "J", .constantLong RX1 32 (-1), .initialized RX8, .static yX8_only, .methodLink RX1 42 yX5_fromAny, .instanceMethod yX5_fromAny, .selects RX5 yX5_fromAny yX5_fromAny, .initialized RX5, .methodLink RX1 70 yX1_least, .static yX1_least, .initialized RX1, .methodLink RX1 62 yX5_withNeeded, .instanceMethod yX5_withNeeded, .selects RX5 yX5_withNeeded yX5_withNeeded, .methodLink RX1 66 yX5_clash, .instanceMethod yX5_clash, .selects RX5 yX5_clash yX5_clash, .methodLink RX1 73 yX5_tangled, .instanceMethod yX5_tangled, .selects RX5 yX5_tangled yX5_tangled] ++ (wsX10 ++ (wq_x_fromAny1 ++ (wq_x_least ++ (wq_x_only ++ (wq_x_withNeeded ++ (wq_x_clash ++ (wq_x_tangled)))))))
theorem in_x_gatherWanted_X1 : ∀ w ∈ wsX10, w ∈ wq_x_gatherWanted := fun _ h => List.mem_append_right _ (List.mem_append_left _ (h))
set_option maxRecDepth 20000 in
theorem wi_x_gatherWanted : ∀ w ∈ wq_x_gatherWanted, w ∈ lw_tbl := List.forall_mem_append.mpr ⟨(by decide +kernel), List.forall_mem_append.mpr ⟨inKX1, List.forall_mem_append.mpr ⟨wi_x_fromAny1, List.forall_mem_append.mpr ⟨wi_x_least, List.forall_mem_append.mpr ⟨wi_x_only, List.forall_mem_append.mpr ⟨wi_x_withNeeded, List.forall_mem_append.mpr ⟨wi_x_clash, wi_x_tangled⟩⟩⟩⟩⟩⟩⟩
set_option maxRecDepth 20000 in
theorem wg_x_gatherWanted : GoodIn wq_x_gatherWanted wq_x_gatherWanted := goodIn_sub (fun _ h => h) (by decide +kernel)
set_option maxRecDepth 20000 in
theorem wc_x_gatherWanted_x_fromAny1_42 : GoodIn wq_x_gatherWanted (wsV RX1 42 RX5 yX5_fromAny wq_x_fromAny1) := goodIn_app (goodIn_of _ (by decide +kernel)) (fun w h => ⟨List.mem_append_right _ (List.mem_append_right _ (List.mem_append_left _ (h))), (wg_x_fromAny1 w h).2⟩)
set_option maxRecDepth 20000 in
theorem wc_x_gatherWanted_x_least_70 : GoodIn wq_x_gatherWanted (va_wsS RX1 70 yX1_least wq_x_least) := goodIn_app (goodIn_of _ (by decide +kernel)) (fun w h => ⟨List.mem_append_right _ (List.mem_append_right _ (List.mem_append_right _ (List.mem_append_left _ (h)))), (wg_x_least w h).2⟩)
theorem wc_x_gatherWanted_x_only_19 : GoodIn wq_x_gatherWanted wq_x_only := (fun w h => ⟨List.mem_append_right _ (List.mem_append_right _ (List.mem_append_right _ (List.mem_append_right _ (List.mem_append_left _ (h))))), (wg_x_only w h).2⟩)
set_option maxRecDepth 20000 in
theorem wc_x_gatherWanted_x_withNeeded_62 : GoodIn wq_x_gatherWanted (wsV RX1 62 RX5 yX5_withNeeded wq_x_withNeeded) := goodIn_app (goodIn_of _ (by decide +kernel)) (fun w h => ⟨List.mem_append_right _ (List.mem_append_right _ (List.mem_append_right _ (List.mem_append_right _ (List.mem_append_right _ (List.mem_append_left _ (h)))))), (wg_x_withNeeded w h).2⟩)
set_option maxRecDepth 20000 in
theorem wc_x_gatherWanted_x_clash_66 : GoodIn wq_x_gatherWanted (wsV RX1 66 RX5 yX5_clash wq_x_clash) := goodIn_app (goodIn_of _ (by decide +kernel)) (fun w h => ⟨List.mem_append_right _ (List.mem_append_right _ (List.mem_append_right _ (List.mem_append_right _ (List.mem_append_right _ (List.mem_append_right _ (List.mem_append_left _ (h))))))), (wg_x_clash w h).2⟩)
set_option maxRecDepth 20000 in
theorem wc_x_gatherWanted_x_tangled_73 : GoodIn wq_x_gatherWanted (wsV RX1 73 RX5 yX5_tangled wq_x_tangled) := goodIn_app (goodIn_of _ (by decide +kernel)) (fun w h => ⟨List.mem_append_right _ (List.mem_append_right _ (List.mem_append_right _ (List.mem_append_right _ (List.mem_append_right _ (List.mem_append_right _ (List.mem_append_right _ (h))))))), (wg_x_tangled w h).2⟩)
def rm_x_gatherWanted : Room := { frames := 3, cells := 0, slots := 0, locals := 74 }
set_option maxHeartbeats 4000000 in
set_option maxRecDepth 100000 in
theorem c_x_gatherWanted (l : Launch) (dC : Nat → ClassId) (dI : Nat → Nat → Nat) (h : Nat) (a : Nat → Nat) (e : Nat) (cI cJ cO cE : ClassId) (L : Nat → Int64) (I : Nat → Int32) (M : Nat → Nat → Int64) (J : Nat → Nat → Int32) (n cap : Nat) (fE : Nat → Option Nat) (sd : Nat → Nat → Nat) (si : Nat → Nat → Int32) (sa : Nat → Nat → Nat → Int32) (dl : Nat → Nat) (b : Nat) (p0 : Int64) (sz : Nat) (hX0 : InvX n cap fE sd dl b I J si) (hb0 : b + 0 < 2147483648)  : Met l yX1_gatherWanted wq_x_gatherWanted rm_x_gatherWanted (va_Pc [.ref (a 2), .long p0] (fun U => U.heap.size = sz ∧ va_P (dC, dI) vwCl (xW h a e cI cJ cO cE L I M J n cap fE sd si sa dl) U.heap ∧ va_K (dC, dI) vwCl (xT cI cJ cO cE) U ∧ va_D (fun _ => True) (xW h a e cI cJ cO cE L I M J n cap fE sd si sa dl) ∧ pw_N U)) (va_Qv (fun (u : (Nat → Int64)) => InvX n cap fE sd dl (b + 0) I J si ∧ (∀ j9 : Nat, j9 ∉ ([2] : List Nat) → u j9 = L j9) ∧ (True)) (fun (u : (Nat → Int64)) (t : State) => va_P (dC, dI) vwCl (xW h a e cI cJ cO cE u I M J n cap fE sd si sa dl) t.heap ∧ va_D (va_A (xW h a e cI cJ cO cE L I M J n cap fE sd si sa dl) sz) (xW h a e cI cJ cO cE u I M J n cap fE sd si sa dl)) (va_A (xW h a e cI cJ cO cE L I M J n cap fE sd si sa dl) sz)) 0 0 (va_A (xW h a e cI cJ cO cE L I M J n cap fE sd si sa dl) sz) := by
  have hn : n ≤ 40 := hX0.1.1
  have hX := hX0
  have hUL : ∀ j9 : Nat, j9 ∉ ([2] : List Nat) → L j9 = L j9 := fun _ _ => rfl
  refine Met.ofW (cc := cX1_gatherWanted) (maxL := 9) (ret := none) (by decide) rfl ?_
  intro p e9 s m args below meth c s₁ B hml hv
  obtain ⟨rfl, hsz, hP, hK, hD0, hN⟩ := hv
  have hx := B.exec
  have hb := B.bytes
  have hr := B.returns
  have hts := atoms_spec (ws := wq_x_gatherWanted) B.pre
  have hown : s.vm.findClass RX1 = some m.cls := findClass_of_methodNamed B.named
  have hlocks := B.notSynchronized
  subst hsz
  have hD := hD0.self (sz := s.heap.size)
  generalize hAe : va_A (xW h a e cI cJ cO cE L I M J n cap fE sd si sa dl) s.heap.size = A at hD ⊢
  have hA : ∀ q : Nat, s.heap.size ≤ q → A q := fun q h => by rw [← hAe]; exact Or.inr h
  have hS : va_S A s.heap s.heap [] := va_S.rf
  have hl := lv_entry ([.ref (a 2), .long p0]) (n := 9) (Nat.le_of_ble_eq_true rfl)
  rw [lg_entry_eq]
  generalize (lg_sl ([.ref (a 2), .long p0]) ++ List.replicate (9 - (lg_sl ([.ref (a 2), .long p0])).length) Slot.unset).toArray = ls at hl ⊢
  have hl : lv_has ls 9 [(0, .ref (a 2)), (1, .long p0)] := hl
  refine mw_Q (fun Q0 hQ => ?_)
  refine lv_lconst (v := 0) hx hb dX1_gatherWanted_0 (by decide) ?_
  refine lv_lstore_n (lv' := [(3, .long 0), (0, .ref (a 2)), (1, .long p0)]) hx hb dX1_gatherWanted_1 rfl hl (by decide) rfl (fun ls hl => ?_)
  refine lv_iconst (v := 0) hx hb dX1_gatherWanted_2 (by decide) ?_
  refine lv_istore (lv' := [(5, .int 0), (3, .long 0), (0, .ref (a 2)), (1, .long p0)]) hx hb dX1_gatherWanted_3 hl (by decide) rfl (fun ls hl => ?_)
  have lp4 : ∀ (fu2 i1 : Nat) (y6 : Int64) (L5 : Nat → Int64) (H : Heap) (locs : List Loc) (ls : Array Slot), 40 < i1 + fu2 → i1 ≤ 40 → InvX n cap fE sd dl (b) I J si → (∀ j9 : Nat, j9 ∉ ([2] : List Nat) → L5 j9 = L j9) → va_P (dC, dI) vwCl (xW h a e cI cJ cO cE L5 I M J n cap fE sd si sa dl) H → va_D A (xW h a e cI cJ cO cE L5 I M J n cap fE sd si sa dl) → va_S A s.heap H locs → lv_has ls 9 [(5, .int (nI i1)), (3, .long y6), (0, .ref (a 2)), (1, .long p0)] → W p l e9 (headSpec wq_x_gatherWanted rm_x_gatherWanted).room s m ([.ref (a 2), .long p0] : List Value).toArray below meth c H locs 0 0 Q0 (F0 m 5 ls []) := by
    intro fu2
    induction fu2 with
    | zero =>
      intro i1 y6 L5 H locs ls hf hi
      exact absurd hf (by omega)
    | succ fu2 ih3 =>
      intro i1 y6 L5 H locs ls hfi1 hii1 hX hUL hP hD hS hl
      refine lv_iload hx hb dX1_gatherWanted_5 (lv_at hl 0 rfl) ?_
      refine lv_bipush (v := 40) hx hb dX1_gatherWanted_7 (by decide) ?_
      refine lv_icmp_ge (tgt := 117) hx hb dX1_gatherWanted_9 (by decide) (fun c7 => ?_) (fun c7 => ?_)
      · replace c7 : 40 ≤ i1 := (nI_leI (a := 40) (b := i1) (by omega) (by omega)).mp c7
        rw [hQ]
        exact W.vret hx hb hr (fun t ht hW => ⟨⟨L5, rfl, ⟨hX.mono (by omega), hUL, trivial⟩, by rw [ht]; exact hP, hD⟩, hS.F ht⟩) hS.2.2 dX1_gatherWanted_117
      · replace c7 : ¬ (40 ≤ i1) := fun q9 => c7 ((nI_leI (a := 40) (b := i1) (by omega) (by omega)).mpr q9)
        refine lv_aload_n hx hb dX1_gatherWanted_12 rfl (lv_at hl 2 rfl) ?_
        refine va_get (D := (dC, dI)) (ci := 2) (v := .ref (a 1)) (C := RX1) (T := TX1) (N := 5) hx hb hts in_x_gatherWanted_X1 hown hK hP 13 rfl rfl 0 (by decide) (hts (.fieldLink RX1 9 "ServiceTree$Draft" "relations" "LServiceTree$Relations;") (by decide +kernel)) (fun _ h9 => h9) rfl dX1_gatherWanted_13 ?_
        refine lv_iconst (v := 1) hx hb dX1_gatherWanted_16 (by decide) ?_
        refine lv_aload_n hx hb dX1_gatherWanted_17 rfl (lv_at hl 2 rfl) ?_
        refine va_get (D := (dC, dI)) (ci := 2) (v := .long (L5 2)) (C := RX1) (T := TX1) (N := 5) hx hb hts in_x_gatherWanted_X1 hown hK hP 13 rfl rfl 1 (by decide) (hts (.fieldLink RX1 15 "ServiceTree$Draft" "members" "J") (by decide +kernel)) (fun _ h9 => h9) rfl dX1_gatherWanted_18 ?_
        refine lv_topl (fun x8 ex8 => ?_)
        have hFc := mw_free hD hS hA
        refine va_calll (va_runV (As := [.int 1, .long x8]) (rest := []) ⟨hx, hb, hml, hown, hts⟩ (c_x_fromAny1 l dC dI h a e cI cJ cO cE L5 I M J n cap fE sd si sa dl (b) x8 H.size hX (by omega) ) (cwV 2 hts wc_x_gatherWanted_x_fromAny1_42 rfl rfl rfl (by decide +kernel) ⟨Nat.le_of_ble_eq_true rfl, Nat.le_of_ble_eq_true rfl⟩) ⟨fun a9 U g mk q => by obtain ⟨q0, q1, qP, qK, qD, qN⟩ := q; exact ⟨q0, q1, qP, va_K.moved (u := U) (U := U.calling g mk a9) (Vm.Alike.refl U.vm) qK, qD, pw_N.same (u := U) (U := U.calling g mk a9) rfl qN⟩, va_recv hK hP (ci := 6) (q0 := 2) rfl rfl, fun U hU hW => ⟨rfl, by rw [hU], by rw [hU]; exact hP, va_K.moved hW.alike hK, hD.weaken (fun _ _ _ _ => trivial), pw_N.warm hW hN⟩⟩ rfl rfl hl.1 rfl (lv_room (Nat.le_of_ble_eq_true rfl)) dX1_gatherWanted_21 ⟨Nat.le_of_ble_eq_true rfl, Nat.le_of_ble_eq_true rfl⟩) hS (fun q _ h => hFc q h) hFc (fun r9 u t H1 locs ht hvm hw hB hz1 hk1 hS => ?_)
        replace hP := hB.1
        rw [ht] at hP
        replace hD : va_D A (xW h a e cI cJ cO cE L5 I M J n cap fE sd si sa dl) := hB.2.weaken (fun _ q _ h9 => hFc q.1 h9)
        clear hB
        generalize H1 = H at hP hS ⊢
        replace hP : va_P (dC, dI) vwCl (xW h a e cI cJ cO cE L5 I M J n cap fE sd si sa dl) H := hP
        refine lv_aload_n hx hb dX1_gatherWanted_24 rfl (lv_at hl 2 rfl) ?_
        refine va_get (D := (dC, dI)) (ci := 2) (v := .long (L5 2)) (C := RX1) (T := TX1) (N := 5) hx hb hts in_x_gatherWanted_X1 hown hK hP 13 rfl rfl 1 (by decide) (hts (.fieldLink RX1 15 "ServiceTree$Draft" "members" "J") (by decide +kernel)) (fun _ h9 => h9) rfl dX1_gatherWanted_25 ?_
        refine p1_topr (v := .long x8) (congrArg Value.long ex8.symm) ?_
        refine lv_ldc2 (v := (-1)) hx hb hown (hts (.constantLong RX1 32 (-1)) (by decide +kernel)) dX1_gatherWanted_28 ?_
        refine lv_lxor hx hb dX1_gatherWanted_31 ?_
        refine lv_topl (fun x10 ex10 => ?_)
        refine lv_land hx hb dX1_gatherWanted_32 ?_
        refine lv_topl (fun x11 ex11 => ?_)
        refine lv_lload_n hx hb dX1_gatherWanted_33 rfl (lv_at hl 1 rfl) ?_
        refine lv_ldc2 (v := (-1)) hx hb hown (hts (.constantLong RX1 32 (-1)) (by decide +kernel)) dX1_gatherWanted_34 ?_
        refine lv_lxor hx hb dX1_gatherWanted_37 ?_
        refine lv_topl (fun x12 ex12 => ?_)
        refine lv_land hx hb dX1_gatherWanted_38 ?_
        refine lv_topl (fun x13 ex13 => ?_)
        have hFc := mw_free hD hS hA
        refine va_calli (va_runS (As := [.long x13]) (rest := []) ⟨hx, hb, hml, hown, hts⟩ (c_x_least l dC dI h a e cI cJ cO cE L5 I M J n cap fE sd si sa dl (b) x13 H.size hX (by omega) ) (va_cwS 1 hts wc_x_gatherWanted_x_least_70 rfl rfl rfl (by decide +kernel) ⟨Nat.le_of_ble_eq_true rfl, Nat.le_of_ble_eq_true rfl⟩) ⟨fun a9 U g mk q => by obtain ⟨q0, q1, qP, qK, qD, qN⟩ := q; exact ⟨q0, q1, qP, va_K.moved (u := U) (U := U.calling g mk a9) (Vm.Alike.refl U.vm) qK, qD, pw_N.same (u := U) (U := U.calling g mk a9) rfl qN⟩, fun U hU hW => ⟨rfl, by rw [hU], by rw [hU]; exact hP, va_K.moved hW.alike hK, hD.weaken (fun _ _ _ _ => trivial), pw_N.warm hW hN⟩⟩ rfl rfl hl.1 rfl (lv_room (Nat.le_of_ble_eq_true rfl)) dX1_gatherWanted_39 ⟨Nat.le_of_ble_eq_true rfl, Nat.le_of_ble_eq_true rfl⟩) hS (fun q _ h => hFc q h) hFc (fun r14 u t H1 locs ht hvm hw hB hz1 hk1 hS => ?_)
        replace hP := hB.1
        rw [ht] at hP
        replace hD : va_D A (xW h a e cI cJ cO cE L5 I M J n cap fE sd si sa dl) := hB.2.weaken (fun _ q _ h9 => hFc q.1 h9)
        clear hB
        generalize H1 = H at hP hS ⊢
        replace hP : va_P (dC, dI) vwCl (xW h a e cI cJ cO cE L5 I M J n cap fE sd si sa dl) H := hP
        refine lv_istore (lv' := [(6, .int r14), (5, .int (nI i1)), (3, .long y6), (0, .ref (a 2)), (1, .long p0)]) hx hb dX1_gatherWanted_42 hl (by decide) rfl (fun ls hl => ?_)
        refine lv_iload hx hb dX1_gatherWanted_44 (lv_at hl 0 rfl) ?_
        refine lv_if_ge (tgt := 50) hx hb dX1_gatherWanted_46 (by decide) (fun c15 => ?_) (fun c15 => ?_)
        · refine lv_lload_n hx hb dX1_gatherWanted_50 rfl (lv_at hl 2 rfl) ?_
          refine lv_iload hx hb dX1_gatherWanted_51 (lv_at hl 0 rfl) ?_
          have hFc := mw_free hD hS hA
          refine va_calll (va_runSN (As := [.int r14]) (rest := [.long y6]) ⟨hx, hb, hml, hown, hts⟩ (c_x_only l dC dI h a e cI cJ cO cE L5 I M J n cap fE sd si sa dl (b) r14 H.size hX (by omega) ) ⟨va_cnB 1 hts wc_x_gatherWanted_x_only_19 rfl rfl rfl (hN (.methodLinkNest RX1 19 yX8_only "ServiceTree") (by decide +kernel)) (hts (.initialized RX8) (by decide +kernel)) (by decide +kernel) ⟨Nat.le_of_ble_eq_true rfl, Nat.le_of_ble_eq_true rfl⟩, hts (.static yX8_only) (by decide +kernel), trivial⟩ ⟨fun a9 U g mk q => by obtain ⟨q0, q1, qP, qK, qD, qN⟩ := q; exact ⟨q0, q1, qP, va_K.moved (u := U) (U := U.calling g mk a9) (Vm.Alike.refl U.vm) qK, qD, pw_N.same (u := U) (U := U.calling g mk a9) rfl qN⟩, fun U hU hW => ⟨rfl, by rw [hU], by rw [hU]; exact hP, va_K.moved hW.alike hK, hD.weaken (fun _ _ _ _ => trivial), pw_N.warm hW hN⟩⟩ rfl rfl hl.1 rfl (lv_room (Nat.le_of_ble_eq_true rfl)) dX1_gatherWanted_53 ⟨Nat.le_of_ble_eq_true rfl, Nat.le_of_ble_eq_true rfl⟩) hS (fun q _ h => hFc q h) hFc (fun r16 u t H1 locs ht hvm hw hB hz1 hk1 hS => ?_)
          replace hP := hB.1
          rw [ht] at hP
          replace hD : va_D A (xW h a e cI cJ cO cE L5 I M J n cap fE sd si sa dl) := hB.2.weaken (fun _ q _ h9 => hFc q.1 h9)
          clear hB
          generalize H1 = H at hP hS ⊢
          replace hP : va_P (dC, dI) vwCl (xW h a e cI cJ cO cE L5 I M J n cap fE sd si sa dl) H := hP
          refine lv_lor hx hb dX1_gatherWanted_56 ?_
          refine lv_topl (fun x17 ex17 => ?_)
          refine lv_lstore_n (lv' := [(3, .long x17), (6, .int r14), (5, .int (nI i1)), (0, .ref (a 2)), (1, .long p0)]) hx hb dX1_gatherWanted_57 rfl hl (by decide) rfl (fun ls hl => ?_)
          refine lv_aload_n hx hb dX1_gatherWanted_58 rfl (lv_at hl 3 rfl) ?_
          refine va_get (D := (dC, dI)) (ci := 2) (v := .long (L5 2)) (C := RX1) (T := TX1) (N := 5) hx hb hts in_x_gatherWanted_X1 hown hK hP 13 rfl rfl 1 (by decide) (hts (.fieldLink RX1 15 "ServiceTree$Draft" "members" "J") (by decide +kernel)) (fun _ h9 => h9) rfl dX1_gatherWanted_59 ?_
          refine p1_topr (v := .long x8) (congrArg Value.long ex8.symm) ?_
          refine lv_aload_n hx hb dX1_gatherWanted_62 rfl (lv_at hl 3 rfl) ?_
          refine va_get (D := (dC, dI)) (ci := 2) (v := .ref (a 1)) (C := RX1) (T := TX1) (N := 5) hx hb hts in_x_gatherWanted_X1 hown hK hP 13 rfl rfl 0 (by decide) (hts (.fieldLink RX1 9 "ServiceTree$Draft" "relations" "LServiceTree$Relations;") (by decide +kernel)) (fun _ h9 => h9) rfl dX1_gatherWanted_63 ?_
          refine lv_iload hx hb dX1_gatherWanted_66 (lv_at hl 1 rfl) ?_
          have hFc := mw_free hD hS hA
          refine va_calll (va_runSN (As := [.int r14]) (rest := [.ref (a 1), .long x8]) ⟨hx, hb, hml, hown, hts⟩ (c_x_only l dC dI h a e cI cJ cO cE L5 I M J n cap fE sd si sa dl (b) r14 H.size hX (by omega) ) ⟨va_cnB 1 hts wc_x_gatherWanted_x_only_19 rfl rfl rfl (hN (.methodLinkNest RX1 19 yX8_only "ServiceTree") (by decide +kernel)) (hts (.initialized RX8) (by decide +kernel)) (by decide +kernel) ⟨Nat.le_of_ble_eq_true rfl, Nat.le_of_ble_eq_true rfl⟩, hts (.static yX8_only) (by decide +kernel), trivial⟩ ⟨fun a9 U g mk q => by obtain ⟨q0, q1, qP, qK, qD, qN⟩ := q; exact ⟨q0, q1, qP, va_K.moved (u := U) (U := U.calling g mk a9) (Vm.Alike.refl U.vm) qK, qD, pw_N.same (u := U) (U := U.calling g mk a9) rfl qN⟩, fun U hU hW => ⟨rfl, by rw [hU], by rw [hU]; exact hP, va_K.moved hW.alike hK, hD.weaken (fun _ _ _ _ => trivial), pw_N.warm hW hN⟩⟩ rfl rfl hl.1 rfl (lv_room (Nat.le_of_ble_eq_true rfl)) dX1_gatherWanted_68 ⟨Nat.le_of_ble_eq_true rfl, Nat.le_of_ble_eq_true rfl⟩) hS (fun q _ h => hFc q h) hFc (fun r18 u t H1 locs ht hvm hw hB hz1 hk1 hS => ?_)
          replace hP := hB.1
          rw [ht] at hP
          replace hD : va_D A (xW h a e cI cJ cO cE L5 I M J n cap fE sd si sa dl) := hB.2.weaken (fun _ q _ h9 => hFc q.1 h9)
          clear hB
          generalize H1 = H at hP hS ⊢
          replace hP : va_P (dC, dI) vwCl (xW h a e cI cJ cO cE L5 I M J n cap fE sd si sa dl) H := hP
          have hFc := mw_free hD hS hA
          refine va_calll (va_runV (As := [.long r18]) (rest := [.long x8]) ⟨hx, hb, hml, hown, hts⟩ (c_x_withNeeded l dC dI h a e cI cJ cO cE L5 I M J n cap fE sd si sa dl (b) r18 H.size hX (by omega) ) (cwV 1 hts wc_x_gatherWanted_x_withNeeded_62 rfl rfl rfl (by decide +kernel) ⟨Nat.le_of_ble_eq_true rfl, Nat.le_of_ble_eq_true rfl⟩) ⟨fun a9 U g mk q => by obtain ⟨q0, q1, qP, qK, qD, qN⟩ := q; exact ⟨q0, q1, qP, va_K.moved (u := U) (U := U.calling g mk a9) (Vm.Alike.refl U.vm) qK, qD, pw_N.same (u := U) (U := U.calling g mk a9) rfl qN⟩, va_recv hK hP (ci := 6) (q0 := 2) rfl rfl, fun U hU hW => ⟨rfl, by rw [hU], by rw [hU]; exact hP, va_K.moved hW.alike hK, hD.weaken (fun _ _ _ _ => trivial), pw_N.warm hW hN⟩⟩ rfl rfl hl.1 rfl (lv_room (Nat.le_of_ble_eq_true rfl)) dX1_gatherWanted_71 ⟨Nat.le_of_ble_eq_true rfl, Nat.le_of_ble_eq_true rfl⟩) hS (fun q _ h => hFc q h) hFc (fun r19 u t H1 locs ht hvm hw hB hz1 hk1 hS => ?_)
          replace hP := hB.1
          rw [ht] at hP
          replace hD : va_D A (xW h a e cI cJ cO cE L5 I M J n cap fE sd si sa dl) := hB.2.weaken (fun _ q _ h9 => hFc q.1 h9)
          clear hB
          generalize H1 = H at hP hS ⊢
          replace hP : va_P (dC, dI) vwCl (xW h a e cI cJ cO cE L5 I M J n cap fE sd si sa dl) H := hP
          refine lv_lor hx hb dX1_gatherWanted_74 ?_
          refine lv_topl (fun x20 ex20 => ?_)
          refine lv_lstore (lv' := [(7, .long x20), (3, .long x17), (6, .int r14), (5, .int (nI i1)), (0, .ref (a 2)), (1, .long p0)]) hx hb dX1_gatherWanted_75 hl (by decide) rfl (fun ls hl => ?_)
          refine lv_aload_n hx hb dX1_gatherWanted_77 rfl (lv_at hl 4 rfl) ?_
          refine va_get (D := (dC, dI)) (ci := 2) (v := .ref (a 1)) (C := RX1) (T := TX1) (N := 5) hx hb hts in_x_gatherWanted_X1 hown hK hP 13 rfl rfl 0 (by decide) (hts (.fieldLink RX1 9 "ServiceTree$Draft" "relations" "LServiceTree$Relations;") (by decide +kernel)) (fun _ h9 => h9) rfl dX1_gatherWanted_78 ?_
          refine lv_lload hx hb dX1_gatherWanted_81 (lv_at hl 0 rfl) ?_
          have hFc := mw_free hD hS hA
          refine va_calli (va_runV (As := [.long x20]) (rest := []) ⟨hx, hb, hml, hown, hts⟩ (c_x_clash l dC dI h a e cI cJ cO cE L5 I M J n cap fE sd si sa dl (b) x20 H.size hX (by omega) ) (cwV 1 hts wc_x_gatherWanted_x_clash_66 rfl rfl rfl (by decide +kernel) ⟨Nat.le_of_ble_eq_true rfl, Nat.le_of_ble_eq_true rfl⟩) ⟨fun a9 U g mk q => by obtain ⟨q0, q1, qP, qK, qD, qN⟩ := q; exact ⟨q0, q1, qP, va_K.moved (u := U) (U := U.calling g mk a9) (Vm.Alike.refl U.vm) qK, qD, pw_N.same (u := U) (U := U.calling g mk a9) rfl qN⟩, va_recv hK hP (ci := 6) (q0 := 2) rfl rfl, fun U hU hW => ⟨rfl, by rw [hU], by rw [hU]; exact hP, va_K.moved hW.alike hK, hD.weaken (fun _ _ _ _ => trivial), pw_N.warm hW hN⟩⟩ rfl rfl hl.1 rfl (lv_room (Nat.le_of_ble_eq_true rfl)) dX1_gatherWanted_83 ⟨Nat.le_of_ble_eq_true rfl, Nat.le_of_ble_eq_true rfl⟩) hS (fun q _ h => hFc q h) hFc (fun r21 u t H1 locs ht hvm hw hB hz1 hk1 hS => ?_)
          replace hP := hB.1
          rw [ht] at hP
          replace hD : va_D A (xW h a e cI cJ cO cE L5 I M J n cap fE sd si sa dl) := hB.2.weaken (fun _ q _ h9 => hFc q.1 h9)
          clear hB
          generalize H1 = H at hP hS ⊢
          replace hP : va_P (dC, dI) vwCl (xW h a e cI cJ cO cE L5 I M J n cap fE sd si sa dl) H := hP
          have br21 := hw
          refine lv_if_ne (tgt := 111) hx hb dX1_gatherWanted_86 (by decide) (fun c22 => ?_) (fun c22 => ?_)
          · refine lv_iinc (v := (nI (i1 + 1))) (lv' := [(5, .int (nI (i1 + 1))), (7, .long x20), (3, .long x17), (6, .int r14), (0, .ref (a 2)), (1, .long p0)]) hx hb dX1_gatherWanted_111 hl (k := 3) rfl (nI_add i1 1) (by decide) rfl (fun ls hl => ?_)
            refine lv_goto (tgt := 5) hx hb dX1_gatherWanted_114 (by decide) ?_
            exact ih3 (i1 + 1) x17 L5 _ _ _ (by omega) (by omega) (hX.mono (by omega)) hUL  hP hD hS (lv_sub hl [0, 2, 4, 5] rfl)
          · refine lv_aload_n hx hb dX1_gatherWanted_89 rfl (lv_at hl 4 rfl) ?_
            refine va_get (D := (dC, dI)) (ci := 2) (v := .ref (a 1)) (C := RX1) (T := TX1) (N := 5) hx hb hts in_x_gatherWanted_X1 hown hK hP 13 rfl rfl 0 (by decide) (hts (.fieldLink RX1 9 "ServiceTree$Draft" "relations" "LServiceTree$Relations;") (by decide +kernel)) (fun _ h9 => h9) rfl dX1_gatherWanted_90 ?_
            refine lv_lload hx hb dX1_gatherWanted_93 (lv_at hl 0 rfl) ?_
            refine lv_lload_n hx hb dX1_gatherWanted_95 rfl (lv_at hl 5 rfl) ?_
            refine lv_land hx hb dX1_gatherWanted_96 ?_
            refine lv_topl (fun x23 ex23 => ?_)
            have hFc := mw_free hD hS hA
            refine va_calll (va_runV (As := [.long x23]) (rest := []) ⟨hx, hb, hml, hown, hts⟩ (c_x_tangled l dC dI h a e cI cJ cO cE L5 I M J n cap fE sd si sa dl (b) x23 H.size hX (by omega) ) (cwV 1 hts wc_x_gatherWanted_x_tangled_73 rfl rfl rfl (by decide +kernel) ⟨Nat.le_of_ble_eq_true rfl, Nat.le_of_ble_eq_true rfl⟩) ⟨fun a9 U g mk q => by obtain ⟨q0, q1, qP, qK, qD, qN⟩ := q; exact ⟨q0, q1, qP, va_K.moved (u := U) (U := U.calling g mk a9) (Vm.Alike.refl U.vm) qK, qD, pw_N.same (u := U) (U := U.calling g mk a9) rfl qN⟩, va_recv hK hP (ci := 6) (q0 := 2) rfl rfl, fun U hU hW => ⟨rfl, by rw [hU], by rw [hU]; exact hP, va_K.moved hW.alike hK, hD.weaken (fun _ _ _ _ => trivial), pw_N.warm hW hN⟩⟩ rfl rfl hl.1 rfl (lv_room (Nat.le_of_ble_eq_true rfl)) dX1_gatherWanted_97 ⟨Nat.le_of_ble_eq_true rfl, Nat.le_of_ble_eq_true rfl⟩) hS (fun q _ h => hFc q h) hFc (fun r24 u t H1 locs ht hvm hw hB hz1 hk1 hS => ?_)
            replace hP := hB.1
            rw [ht] at hP
            replace hD : va_D A (xW h a e cI cJ cO cE L5 I M J n cap fE sd si sa dl) := hB.2.weaken (fun _ q _ h9 => hFc q.1 h9)
            clear hB
            generalize H1 = H at hP hS ⊢
            replace hP : va_P (dC, dI) vwCl (xW h a e cI cJ cO cE L5 I M J n cap fE sd si sa dl) H := hP
            refine lv_lconst (v := 0) hx hb dX1_gatherWanted_100 (by decide) ?_
            refine W.lcmp hx hb dX1_gatherWanted_101 ?_
            refine lv_topi (fun x25 ex25 => ?_)
            refine lv_if_ne (tgt := 111) hx hb dX1_gatherWanted_102 (by decide) (fun c26 => ?_) (fun c26 => ?_)
            · refine lv_iinc (v := (nI (i1 + 1))) (lv' := [(5, .int (nI (i1 + 1))), (7, .long x20), (3, .long x17), (6, .int r14), (0, .ref (a 2)), (1, .long p0)]) hx hb dX1_gatherWanted_111 hl (k := 3) rfl (nI_add i1 1) (by decide) rfl (fun ls hl => ?_)
              refine lv_goto (tgt := 5) hx hb dX1_gatherWanted_114 (by decide) ?_
              exact ih3 (i1 + 1) x17 L5 _ _ _ (by omega) (by omega) (hX.mono (by omega)) hUL  hP hD hS (lv_sub hl [0, 2, 4, 5] rfl)
            · refine lv_aload_n hx hb dX1_gatherWanted_105 rfl (lv_at hl 4 rfl) ?_
              refine lv_lload hx hb dX1_gatherWanted_106 (lv_at hl 0 rfl) ?_
              refine va_put (D := (dC, dI)) (ci := 2) (fs := [.ref (a 1), .long (L5 2), .long (L5 3), .long (L5 4), .int (I 8)]) (v := .long x20) (ty := .long) (C := RX1) (T := TX1) (N := 5) hx hb hts in_x_gatherWanted_X1 tyX1 tyX1_ok nmX1 hown hK hP hD hS 13 rfl rfl 1 (by decide) (hts (.fieldLink RX1 15 "ServiceTree$Draft" "members" "J") (by decide +kernel)) (fun _ h9 => h9) rfl (by decide +kernel) rfl rfl (Nat.le_of_ble_eq_true rfl) dX1_gatherWanted_108 (fun H locs hP hD hS => ?_)
              replace hP : va_P (dC, dI) vwCl ((xW h a e cI cJ cO cE L5 I M J n cap fE sd si sa dl).set 13 (a 2, .inr (2, [.ref (a 1), .long x20, .long (L5 3), .long (L5 4), .int (I 8)]))) H := hP
              replace hD : va_D A ((xW h a e cI cJ cO cE L5 I M J n cap fE sd si sa dl).set 13 (a 2, .inr (2, [.ref (a 1), .long x20, .long (L5 3), .long (L5 4), .int (I 8)]))) := hD
              rw [xF_L2] at hP hD
              obtain ⟨L27, eL27⟩ : ∃ f9 : Nat → Int64, f9 = va_up L5 2 x20 := ⟨_, rfl⟩
              rw [← eL27] at hP hD
              replace hUL : ∀ j9 : Nat, j9 ∉ ([2] : List Nat) → L27 j9 = L j9 := by rw [eL27]; exact mw_up (by decide) hUL
              refine lv_iinc (v := (nI (i1 + 1))) (lv' := [(5, .int (nI (i1 + 1))), (7, .long x20), (3, .long x17), (6, .int r14), (0, .ref (a 2)), (1, .long p0)]) hx hb dX1_gatherWanted_111 hl (k := 3) rfl (nI_add i1 1) (by decide) rfl (fun ls hl => ?_)
              refine lv_goto (tgt := 5) hx hb dX1_gatherWanted_114 (by decide) ?_
              exact ih3 (i1 + 1) x17 L27 _ _ _ (by omega) (by omega) (hX.mono (by omega)) hUL  hP hD hS (lv_sub hl [0, 2, 4, 5] rfl)
        · rw [hQ]
          exact W.vret hx hb hr (fun t ht hW => ⟨⟨L5, rfl, ⟨hX.mono (by omega), hUL, trivial⟩, by rw [ht]; exact hP, hD⟩, hS.F ht⟩) hS.2.2 dX1_gatherWanted_49
  exact lp4 (40 + 1) 0 0 L _ _ _ (by omega) (by omega) (hX.mono (by omega)) hUL  hP hD hS hl
