theorem dX8_layOutDraft_0 : decode cX8_layOutDraft 0 = .ok (.aload_n 0, 1) := by decide +kernel
theorem dX8_layOutDraft_1 : decode cX8_layOutDraft 1 = .ok (.getfield 28, 3) := by decide +kernel
theorem dX8_layOutDraft_4 : decode cX8_layOutDraft 4 = .ok (.getfield 247, 3) := by decide +kernel
theorem dX8_layOutDraft_7 : decode cX8_layOutDraft 7 = .ok (.lstore_n 1, 1) := by decide +kernel
theorem dX8_layOutDraft_8 : decode cX8_layOutDraft 8 = .ok (.aload_n 0, 1) := by decide +kernel
theorem dX8_layOutDraft_9 : decode cX8_layOutDraft 9 = .ok (.getfield 28, 3) := by decide +kernel
theorem dX8_layOutDraft_12 : decode cX8_layOutDraft 12 = .ok (.getfield 253, 3) := by decide +kernel
theorem dX8_layOutDraft_15 : decode cX8_layOutDraft 15 = .ok (.lstore_n 3, 1) := by decide +kernel
theorem dX8_layOutDraft_16 : decode cX8_layOutDraft 16 = .ok (.lload_n 1, 1) := by decide +kernel
theorem dX8_layOutDraft_17 : decode cX8_layOutDraft 17 = .ok (.lload_n 3, 1) := by decide +kernel
theorem dX8_layOutDraft_18 : decode cX8_layOutDraft 18 = .ok (.lor, 1) := by decide +kernel
theorem dX8_layOutDraft_19 : decode cX8_layOutDraft 19 = .ok (.lstore 5, 2) := by decide +kernel
theorem dX8_layOutDraft_21 : decode cX8_layOutDraft 21 = .ok (.aload_n 0, 1) := by decide +kernel
theorem dX8_layOutDraft_22 : decode cX8_layOutDraft 22 = .ok (.getfield 42, 3) := by decide +kernel
theorem dX8_layOutDraft_25 : decode cX8_layOutDraft 25 = .ok (.lload_n 1, 1) := by decide +kernel
theorem dX8_layOutDraft_26 : decode cX8_layOutDraft 26 = .ok (.invokevirtual 263, 3) := by decide +kernel
theorem dX8_layOutDraft_29 : decode cX8_layOutDraft 29 = .ok (.iconst 0, 1) := by decide +kernel
theorem dX8_layOutDraft_30 : decode cX8_layOutDraft 30 = .ok (.istore 7, 2) := by decide +kernel
theorem dX8_layOutDraft_32 : decode cX8_layOutDraft 32 = .ok (.iload 7, 2) := by decide +kernel
theorem dX8_layOutDraft_34 : decode cX8_layOutDraft 34 = .ok (.bipush 40, 2) := by decide +kernel
theorem dX8_layOutDraft_36 : decode cX8_layOutDraft 36 = .ok (.if_icmp .ge 140, 3) := by decide +kernel
theorem dX8_layOutDraft_39 : decode cX8_layOutDraft 39 = .ok (.lload 5, 2) := by decide +kernel
theorem dX8_layOutDraft_41 : decode cX8_layOutDraft 41 = .ok (.lconst 0, 1) := by decide +kernel
theorem dX8_layOutDraft_42 : decode cX8_layOutDraft 42 = .ok (.lcmp, 1) := by decide +kernel
theorem dX8_layOutDraft_43 : decode cX8_layOutDraft 43 = .ok (.ifCond .eq 133, 3) := by decide +kernel
theorem dX8_layOutDraft_46 : decode cX8_layOutDraft 46 = .ok (.iconst 0, 1) := by decide +kernel
theorem dX8_layOutDraft_47 : decode cX8_layOutDraft 47 = .ok (.istore 8, 2) := by decide +kernel
theorem dX8_layOutDraft_49 : decode cX8_layOutDraft 49 = .ok (.iload 8, 2) := by decide +kernel
theorem dX8_layOutDraft_51 : decode cX8_layOutDraft 51 = .ok (.aload_n 0, 1) := by decide +kernel
theorem dX8_layOutDraft_52 : decode cX8_layOutDraft 52 = .ok (.getfield 10, 3) := by decide +kernel
theorem dX8_layOutDraft_55 : decode cX8_layOutDraft 55 = .ok (.invokevirtual 61, 3) := by decide +kernel
theorem dX8_layOutDraft_58 : decode cX8_layOutDraft 58 = .ok (.if_icmp .ge 112, 3) := by decide +kernel
theorem dX8_layOutDraft_61 : decode cX8_layOutDraft 61 = .ok (.lload 5, 2) := by decide +kernel
theorem dX8_layOutDraft_63 : decode cX8_layOutDraft 63 = .ok (.iload 8, 2) := by decide +kernel
theorem dX8_layOutDraft_65 : decode cX8_layOutDraft 65 = .ok (.invokestatic 114, 3) := by decide +kernel
theorem dX8_layOutDraft_68 : decode cX8_layOutDraft 68 = .ok (.ifCond .eq 96, 3) := by decide +kernel
theorem dX8_layOutDraft_71 : decode cX8_layOutDraft 71 = .ok (.aload_n 0, 1) := by decide +kernel
theorem dX8_layOutDraft_72 : decode cX8_layOutDraft 72 = .ok (.getfield 19, 3) := by decide +kernel
theorem dX8_layOutDraft_75 : decode cX8_layOutDraft 75 = .ok (.iload 8, 2) := by decide +kernel
theorem dX8_layOutDraft_77 : decode cX8_layOutDraft 77 = .ok (.lload_n 1, 1) := by decide +kernel
theorem dX8_layOutDraft_78 : decode cX8_layOutDraft 78 = .ok (.lload_n 3, 1) := by decide +kernel
theorem dX8_layOutDraft_79 : decode cX8_layOutDraft 79 = .ok (.invokevirtual 267, 3) := by decide +kernel
theorem dX8_layOutDraft_82 : decode cX8_layOutDraft 82 = .ok (.lload 5, 2) := by decide +kernel
theorem dX8_layOutDraft_84 : decode cX8_layOutDraft 84 = .ok (.land, 1) := by decide +kernel
theorem dX8_layOutDraft_85 : decode cX8_layOutDraft 85 = .ok (.lconst 0, 1) := by decide +kernel
theorem dX8_layOutDraft_86 : decode cX8_layOutDraft 86 = .ok (.lcmp, 1) := by decide +kernel
theorem dX8_layOutDraft_87 : decode cX8_layOutDraft 87 = .ok (.ifCond .ne 77, 3) := by decide +kernel
theorem dX8_layOutDraft_90 : decode cX8_layOutDraft 90 = .ok (.aload_n 0, 1) := by decide +kernel
theorem dX8_layOutDraft_91 : decode cX8_layOutDraft 91 = .ok (.getfield 42, 3) := by decide +kernel
theorem dX8_layOutDraft_94 : decode cX8_layOutDraft 94 = .ok (.aload_n 0, 1) := by decide +kernel
theorem dX8_layOutDraft_95 : decode cX8_layOutDraft 95 = .ok (.getfield 19, 3) := by decide +kernel
theorem dX8_layOutDraft_98 : decode cX8_layOutDraft 98 = .ok (.iload 8, 2) := by decide +kernel
theorem dX8_layOutDraft_100 : decode cX8_layOutDraft 100 = .ok (.lload_n 1, 1) := by decide +kernel
theorem dX8_layOutDraft_101 : decode cX8_layOutDraft 101 = .ok (.lload_n 3, 1) := by decide +kernel
theorem dX8_layOutDraft_102 : decode cX8_layOutDraft 102 = .ok (.invokevirtual 267, 3) := by decide +kernel
theorem dX8_layOutDraft_105 : decode cX8_layOutDraft 105 = .ok (.invokevirtual 270, 3) := by decide +kernel
theorem dX8_layOutDraft_108 : decode cX8_layOutDraft 108 = .ok (.istore 9, 2) := by decide +kernel
theorem dX8_layOutDraft_110 : decode cX8_layOutDraft 110 = .ok (.aload_n 0, 1) := by decide +kernel
theorem dX8_layOutDraft_111 : decode cX8_layOutDraft 111 = .ok (.getfield 42, 3) := by decide +kernel
theorem dX8_layOutDraft_114 : decode cX8_layOutDraft 114 = .ok (.iload 8, 2) := by decide +kernel
theorem dX8_layOutDraft_116 : decode cX8_layOutDraft 116 = .ok (.iload 9, 2) := by decide +kernel
theorem dX8_layOutDraft_118 : decode cX8_layOutDraft 118 = .ok (.iload 9, 2) := by decide +kernel
theorem dX8_layOutDraft_120 : decode cX8_layOutDraft 120 = .ok (.lload_n 1, 1) := by decide +kernel
theorem dX8_layOutDraft_121 : decode cX8_layOutDraft 121 = .ok (.iload 8, 2) := by decide +kernel
theorem dX8_layOutDraft_123 : decode cX8_layOutDraft 123 = .ok (.invokestatic 114, 3) := by decide +kernel
theorem dX8_layOutDraft_126 : decode cX8_layOutDraft 126 = .ok (.ifCond .eq 12, 3) := by decide +kernel
theorem dX8_layOutDraft_129 : decode cX8_layOutDraft 129 = .ok (.aload_n 0, 1) := by decide +kernel
theorem dX8_layOutDraft_130 : decode cX8_layOutDraft 130 = .ok (.iload 8, 2) := by decide +kernel
theorem dX8_layOutDraft_132 : decode cX8_layOutDraft 132 = .ok (.invokevirtual 273, 3) := by decide +kernel
theorem dX8_layOutDraft_135 : decode cX8_layOutDraft 135 = .ok (.goto 11, 3) := by decide +kernel
theorem dX8_layOutDraft_138 : decode cX8_layOutDraft 138 = .ok (.aload_n 0, 1) := by decide +kernel
theorem dX8_layOutDraft_139 : decode cX8_layOutDraft 139 = .ok (.iload 8, 2) := by decide +kernel
theorem dX8_layOutDraft_141 : decode cX8_layOutDraft 141 = .ok (.iload 9, 2) := by decide +kernel
theorem dX8_layOutDraft_143 : decode cX8_layOutDraft 143 = .ok (.invokevirtual 276, 3) := by decide +kernel
theorem dX8_layOutDraft_146 : decode cX8_layOutDraft 146 = .ok (.iadd, 1) := by decide +kernel
theorem dX8_layOutDraft_147 : decode cX8_layOutDraft 147 = .ok (.invokevirtual 279, 3) := by decide +kernel
theorem dX8_layOutDraft_150 : decode cX8_layOutDraft 150 = .ok (.lload 5, 2) := by decide +kernel
theorem dX8_layOutDraft_152 : decode cX8_layOutDraft 152 = .ok (.iload 8, 2) := by decide +kernel
theorem dX8_layOutDraft_154 : decode cX8_layOutDraft 154 = .ok (.invokestatic 78, 3) := by decide +kernel
theorem dX8_layOutDraft_157 : decode cX8_layOutDraft 157 = .ok (.ldc2_w 238, 3) := by decide +kernel
theorem dX8_layOutDraft_160 : decode cX8_layOutDraft 160 = .ok (.lxor, 1) := by decide +kernel
theorem dX8_layOutDraft_161 : decode cX8_layOutDraft 161 = .ok (.land, 1) := by decide +kernel
theorem dX8_layOutDraft_162 : decode cX8_layOutDraft 162 = .ok (.lstore 5, 2) := by decide +kernel
theorem dX8_layOutDraft_164 : decode cX8_layOutDraft 164 = .ok (.iinc 8 1, 3) := by decide +kernel
theorem dX8_layOutDraft_167 : decode cX8_layOutDraft 167 = .ok (.goto (-118), 3) := by decide +kernel
theorem dX8_layOutDraft_170 : decode cX8_layOutDraft 170 = .ok (.iinc 7 1, 3) := by decide +kernel
theorem dX8_layOutDraft_173 : decode cX8_layOutDraft 173 = .ok (.goto (-141), 3) := by decide +kernel
theorem dX8_layOutDraft_176 : decode cX8_layOutDraft 176 = .ok (.return_, 1) := by decide +kernel
theorem dX8_ticksToStart_0 : decode cX8_ticksToStart 0 = .ok (.aload_n 0, 1) := by decide +kernel
theorem dX8_ticksToStart_1 : decode cX8_ticksToStart 1 = .ok (.getfield 10, 3) := by decide +kernel
theorem dX8_ticksToStart_4 : decode cX8_ticksToStart 4 = .ok (.iload_n 1, 1) := by decide +kernel
theorem dX8_ticksToStart_5 : decode cX8_ticksToStart 5 = .ok (.invokevirtual 86, 3) := by decide +kernel
theorem dX8_ticksToStart_8 : decode cX8_ticksToStart 8 = .ok (.checkcast 65, 3) := by decide +kernel
theorem dX8_ticksToStart_11 : decode cX8_ticksToStart 11 = .ok (.getfield 280, 3) := by decide +kernel
theorem dX8_ticksToStart_14 : decode cX8_ticksToStart 14 = .ok (.ireturn, 1) := by decide +kernel
theorem dX8_ticksToStop_0 : decode cX8_ticksToStop 0 = .ok (.aload_n 0, 1) := by decide +kernel
theorem dX8_ticksToStop_1 : decode cX8_ticksToStop 1 = .ok (.getfield 10, 3) := by decide +kernel
theorem dX8_ticksToStop_4 : decode cX8_ticksToStop 4 = .ok (.iload_n 1, 1) := by decide +kernel
theorem dX8_ticksToStop_5 : decode cX8_ticksToStop 5 = .ok (.invokevirtual 86, 3) := by decide +kernel
theorem dX8_ticksToStop_8 : decode cX8_ticksToStop 8 = .ok (.checkcast 65, 3) := by decide +kernel
theorem dX8_ticksToStop_11 : decode cX8_ticksToStop 11 = .ok (.astore_n 3, 1) := by decide +kernel
theorem dX8_ticksToStop_12 : decode cX8_ticksToStop 12 = .ok (.aload_n 3, 1) := by decide +kernel
theorem dX8_ticksToStop_13 : decode cX8_ticksToStop 13 = .ok (.getfield 162, 3) := by decide +kernel
theorem dX8_ticksToStop_16 : decode cX8_ticksToStop 16 = .ok (.iconst 5, 1) := by decide +kernel
theorem dX8_ticksToStop_17 : decode cX8_ticksToStop 17 = .ok (.if_icmp .ne 24, 3) := by decide +kernel
theorem dX8_ticksToStop_20 : decode cX8_ticksToStop 20 = .ok (.iload_n 2, 1) := by decide +kernel
theorem dX8_ticksToStop_21 : decode cX8_ticksToStop 21 = .ok (.ifCond .eq 16, 3) := by decide +kernel
theorem dX8_ticksToStop_24 : decode cX8_ticksToStop 24 = .ok (.aload_n 3, 1) := by decide +kernel
theorem dX8_ticksToStop_25 : decode cX8_ticksToStop 25 = .ok (.aload_n 0, 1) := by decide +kernel
theorem dX8_ticksToStop_26 : decode cX8_ticksToStop 26 = .ok (.getfield 67, 3) := by decide +kernel
theorem dX8_ticksToStop_29 : decode cX8_ticksToStop 29 = .ok (.iload_n 2, 1) := by decide +kernel
theorem dX8_ticksToStop_30 : decode cX8_ticksToStop 30 = .ok (.iadd, 1) := by decide +kernel
theorem dX8_ticksToStop_31 : decode cX8_ticksToStop 31 = .ok (.invokevirtual 283, 3) := by decide +kernel
theorem dX8_ticksToStop_34 : decode cX8_ticksToStop 34 = .ok (.ifCond .ne 7, 3) := by decide +kernel
theorem dX8_ticksToStop_37 : decode cX8_ticksToStop 37 = .ok (.iconst 1, 1) := by decide +kernel
theorem dX8_ticksToStop_38 : decode cX8_ticksToStop 38 = .ok (.goto 4, 3) := by decide +kernel
theorem dX8_ticksToStop_41 : decode cX8_ticksToStop 41 = .ok (.iconst 0, 1) := by decide +kernel
theorem dX8_ticksToStop_42 : decode cX8_ticksToStop 42 = .ok (.istore 4, 2) := by decide +kernel
theorem dX8_ticksToStop_44 : decode cX8_ticksToStop 44 = .ok (.iload 4, 2) := by decide +kernel
theorem dX8_ticksToStop_46 : decode cX8_ticksToStop 46 = .ok (.ifCond .eq 7, 3) := by decide +kernel
theorem dX8_ticksToStop_49 : decode cX8_ticksToStop 49 = .ok (.iconst 0, 1) := by decide +kernel
theorem dX8_ticksToStop_50 : decode cX8_ticksToStop 50 = .ok (.goto 7, 3) := by decide +kernel
theorem dX8_ticksToStop_53 : decode cX8_ticksToStop 53 = .ok (.aload_n 3, 1) := by decide +kernel
theorem dX8_ticksToStop_54 : decode cX8_ticksToStop 54 = .ok (.getfield 286, 3) := by decide +kernel
theorem dX8_ticksToStop_57 : decode cX8_ticksToStop 57 = .ok (.ireturn, 1) := by decide +kernel
theorem dX8_passDueTime_0 : decode cX8_passDueTime 0 = .ok (.aload_n 0, 1) := by decide +kernel
theorem dX8_passDueTime_1 : decode cX8_passDueTime 1 = .ok (.getfield 10, 3) := by decide +kernel
theorem dX8_passDueTime_4 : decode cX8_passDueTime 4 = .ok (.iload_n 1, 1) := by decide +kernel
theorem dX8_passDueTime_5 : decode cX8_passDueTime 5 = .ok (.invokevirtual 86, 3) := by decide +kernel
theorem dX8_passDueTime_8 : decode cX8_passDueTime 8 = .ok (.checkcast 65, 3) := by decide +kernel
theorem dX8_passDueTime_11 : decode cX8_passDueTime 11 = .ok (.astore_n 2, 1) := by decide +kernel
theorem dX8_passDueTime_12 : decode cX8_passDueTime 12 = .ok (.aload_n 2, 1) := by decide +kernel
theorem dX8_passDueTime_13 : decode cX8_passDueTime 13 = .ok (.getfield 162, 3) := by decide +kernel
theorem dX8_passDueTime_16 : decode cX8_passDueTime 16 = .ok (.tableswitch 86 1 5 #[36, 54, 45, 86, 62], 36) := by decide +kernel
theorem dX8_passDueTime_52 : decode cX8_passDueTime 52 = .ok (.aload_n 0, 1) := by decide +kernel
theorem dX8_passDueTime_53 : decode cX8_passDueTime 53 = .ok (.iload_n 1, 1) := by decide +kernel
theorem dX8_passDueTime_54 : decode cX8_passDueTime 54 = .ok (.iconst 2, 1) := by decide +kernel
theorem dX8_passDueTime_55 : decode cX8_passDueTime 55 = .ok (.invokevirtual 249, 3) := by decide +kernel
theorem dX8_passDueTime_58 : decode cX8_passDueTime 58 = .ok (.goto 44, 3) := by decide +kernel
theorem dX8_passDueTime_61 : decode cX8_passDueTime 61 = .ok (.aload_n 0, 1) := by decide +kernel
theorem dX8_passDueTime_62 : decode cX8_passDueTime 62 = .ok (.iload_n 1, 1) := by decide +kernel
theorem dX8_passDueTime_63 : decode cX8_passDueTime 63 = .ok (.iconst 0, 1) := by decide +kernel
theorem dX8_passDueTime_64 : decode cX8_passDueTime 64 = .ok (.invokevirtual 249, 3) := by decide +kernel
theorem dX8_passDueTime_67 : decode cX8_passDueTime 67 = .ok (.goto 35, 3) := by decide +kernel
theorem dX8_passDueTime_70 : decode cX8_passDueTime 70 = .ok (.aload_n 0, 1) := by decide +kernel
theorem dX8_passDueTime_71 : decode cX8_passDueTime 71 = .ok (.iload_n 1, 1) := by decide +kernel
theorem dX8_passDueTime_72 : decode cX8_passDueTime 72 = .ok (.invokevirtual 323, 3) := by decide +kernel
theorem dX8_passDueTime_75 : decode cX8_passDueTime 75 = .ok (.goto 27, 3) := by decide +kernel
theorem dX8_passDueTime_78 : decode cX8_passDueTime 78 = .ok (.aload_n 0, 1) := by decide +kernel
theorem dX8_passDueTime_79 : decode cX8_passDueTime 79 = .ok (.iload_n 1, 1) := by decide +kernel
theorem dX8_passDueTime_80 : decode cX8_passDueTime 80 = .ok (.aload_n 0, 1) := by decide +kernel
theorem dX8_passDueTime_81 : decode cX8_passDueTime 81 = .ok (.iload_n 1, 1) := by decide +kernel
theorem dX8_passDueTime_82 : decode cX8_passDueTime 82 = .ok (.invokevirtual 326, 3) := by decide +kernel
theorem dX8_passDueTime_85 : decode cX8_passDueTime 85 = .ok (.ifCond .eq 10, 3) := by decide +kernel
theorem dX8_passDueTime_88 : decode cX8_passDueTime 88 = .ok (.aload_n 2, 1) := by decide +kernel
theorem dX8_passDueTime_89 : decode cX8_passDueTime 89 = .ok (.invokevirtual 305, 3) := by decide +kernel
theorem dX8_passDueTime_92 : decode cX8_passDueTime 92 = .ok (.goto 4, 3) := by decide +kernel
theorem dX8_passDueTime_95 : decode cX8_passDueTime 95 = .ok (.iconst 4, 1) := by decide +kernel
theorem dX8_passDueTime_96 : decode cX8_passDueTime 96 = .ok (.invokevirtual 249, 3) := by decide +kernel
theorem dX8_passDueTime_99 : decode cX8_passDueTime 99 = .ok (.goto 3, 3) := by decide +kernel
theorem dX8_passDueTime_102 : decode cX8_passDueTime 102 = .ok (.return_, 1) := by decide +kernel
theorem dX8_endLife_0 : decode cX8_endLife 0 = .ok (.aload_n 0, 1) := by decide +kernel
theorem dX8_endLife_1 : decode cX8_endLife 1 = .ok (.getfield 10, 3) := by decide +kernel
theorem dX8_endLife_4 : decode cX8_endLife 4 = .ok (.iload_n 1, 1) := by decide +kernel
theorem dX8_endLife_5 : decode cX8_endLife 5 = .ok (.invokevirtual 86, 3) := by decide +kernel
theorem dX8_endLife_8 : decode cX8_endLife 8 = .ok (.checkcast 65, 3) := by decide +kernel
theorem dX8_endLife_11 : decode cX8_endLife 11 = .ok (.astore_n 2, 1) := by decide +kernel
theorem dX8_endLife_12 : decode cX8_endLife 12 = .ok (.aload_n 2, 1) := by decide +kernel
theorem dX8_endLife_13 : decode cX8_endLife 13 = .ok (.getfield 90, 3) := by decide +kernel
theorem dX8_endLife_16 : decode cX8_endLife 16 = .ok (.iconst 1, 1) := by decide +kernel
theorem dX8_endLife_17 : decode cX8_endLife 17 = .ok (.if_icmp .ne 25, 3) := by decide +kernel
theorem dX8_endLife_20 : decode cX8_endLife 20 = .ok (.aload_n 2, 1) := by decide +kernel
theorem dX8_endLife_21 : decode cX8_endLife 21 = .ok (.invokevirtual 329, 3) := by decide +kernel
theorem dX8_endLife_24 : decode cX8_endLife 24 = .ok (.aload_n 0, 1) := by decide +kernel
theorem dX8_endLife_25 : decode cX8_endLife 25 = .ok (.dup, 1) := by decide +kernel
theorem dX8_endLife_26 : decode cX8_endLife 26 = .ok (.getfield 311, 3) := by decide +kernel
theorem dX8_endLife_29 : decode cX8_endLife 29 = .ok (.iload_n 1, 1) := by decide +kernel
theorem dX8_endLife_30 : decode cX8_endLife 30 = .ok (.invokestatic 78, 3) := by decide +kernel
theorem dX8_endLife_33 : decode cX8_endLife 33 = .ok (.ldc2_w 238, 3) := by decide +kernel
theorem dX8_endLife_36 : decode cX8_endLife 36 = .ok (.lxor, 1) := by decide +kernel
theorem dX8_endLife_37 : decode cX8_endLife 37 = .ok (.land, 1) := by decide +kernel
theorem dX8_endLife_38 : decode cX8_endLife 38 = .ok (.putfield 311, 3) := by decide +kernel
theorem dX8_endLife_41 : decode cX8_endLife 41 = .ok (.return_, 1) := by decide +kernel
theorem dX8_endLife_42 : decode cX8_endLife 42 = .ok (.aload_n 0, 1) := by decide +kernel
theorem dX8_endLife_43 : decode cX8_endLife 43 = .ok (.iload_n 1, 1) := by decide +kernel
theorem dX8_endLife_44 : decode cX8_endLife 44 = .ok (.aload_n 2, 1) := by decide +kernel
theorem dX8_endLife_45 : decode cX8_endLife 45 = .ok (.getfield 97, 3) := by decide +kernel
theorem dX8_endLife_48 : decode cX8_endLife 48 = .ok (.aload_n 0, 1) := by decide +kernel
theorem dX8_endLife_49 : decode cX8_endLife 49 = .ok (.getfield 67, 3) := by decide +kernel
theorem dX8_endLife_52 : decode cX8_endLife 52 = .ok (.invokevirtual 332, 3) := by decide +kernel
theorem dX8_endLife_55 : decode cX8_endLife 55 = .ok (.ifCond .eq 7, 3) := by decide +kernel
theorem dX8_endLife_58 : decode cX8_endLife 58 = .ok (.iconst 5, 1) := by decide +kernel
theorem dX8_endLife_59 : decode cX8_endLife 59 = .ok (.goto 4, 3) := by decide +kernel
theorem dX8_endLife_62 : decode cX8_endLife 62 = .ok (.iconst 4, 1) := by decide +kernel
theorem dX8_endLife_63 : decode cX8_endLife 63 = .ok (.invokevirtual 249, 3) := by decide +kernel
theorem dX8_endLife_66 : decode cX8_endLife 66 = .ok (.return_, 1) := by decide +kernel
theorem dX8_canWake_0 : decode cX8_canWake 0 = .ok (.aload_n 0, 1) := by decide +kernel
theorem dX8_canWake_1 : decode cX8_canWake 1 = .ok (.iload_n 1, 1) := by decide +kernel
theorem dX8_canWake_2 : decode cX8_canWake 2 = .ok (.invokevirtual 231, 3) := by decide +kernel
theorem dX8_canWake_5 : decode cX8_canWake 5 = .ok (.ifCond .eq 26, 3) := by decide +kernel
theorem dX8_canWake_8 : decode cX8_canWake 8 = .ok (.aload_n 0, 1) := by decide +kernel
theorem dX8_canWake_9 : decode cX8_canWake 9 = .ok (.getfield 19, 3) := by decide +kernel
theorem dX8_canWake_12 : decode cX8_canWake 12 = .ok (.iconst 3, 1) := by decide +kernel
theorem dX8_canWake_13 : decode cX8_canWake 13 = .ok (.iload_n 1, 1) := by decide +kernel
theorem dX8_canWake_14 : decode cX8_canWake 14 = .ok (.invokevirtual 234, 3) := by decide +kernel
theorem dX8_canWake_17 : decode cX8_canWake 17 = .ok (.aload_n 0, 1) := by decide +kernel
theorem dX8_canWake_18 : decode cX8_canWake 18 = .ok (.invokevirtual 224, 3) := by decide +kernel
theorem dX8_canWake_21 : decode cX8_canWake 21 = .ok (.land, 1) := by decide +kernel
theorem dX8_canWake_22 : decode cX8_canWake 22 = .ok (.lconst 0, 1) := by decide +kernel
theorem dX8_canWake_23 : decode cX8_canWake 23 = .ok (.lcmp, 1) := by decide +kernel
theorem dX8_canWake_24 : decode cX8_canWake 24 = .ok (.ifCond .ne 7, 3) := by decide +kernel
theorem dX8_canWake_27 : decode cX8_canWake 27 = .ok (.iconst 1, 1) := by decide +kernel
theorem dX8_canWake_28 : decode cX8_canWake 28 = .ok (.goto 4, 3) := by decide +kernel
theorem dX8_canWake_31 : decode cX8_canWake 31 = .ok (.iconst 0, 1) := by decide +kernel
theorem dX8_canWake_32 : decode cX8_canWake 32 = .ok (.ireturn, 1) := by decide +kernel
def wq_x_ticksToStart : List Cond := [.code yX8_ticksToStart cX8_ticksToStart 2 (some .int), .fieldLink RX8 10 "ServiceTree" "services" "Ljava/util/ArrayList;", .classLink RX8 65 RX7, .methodLink RX8 86 yJx4a65c_get_915e3, .instanceMethod yJx4a65c_get_915e3, .selects RJx4a65c yJx4a65c_get_915e3 yJx4a65c_get_915e3, .initialized RJx4a65c] ++ (wsX70 ++ (wsX80 ++ (wq_x_get)))
theorem in_x_ticksToStart_X7 : ∀ w ∈ wsX70, w ∈ wq_x_ticksToStart := fun _ h => List.mem_append_right _ (List.mem_append_left _ (h))
theorem in_x_ticksToStart_X8 : ∀ w ∈ wsX80, w ∈ wq_x_ticksToStart := fun _ h => List.mem_append_right _ (List.mem_append_right _ (List.mem_append_left _ (h)))
set_option maxRecDepth 20000 in
theorem wi_x_ticksToStart : ∀ w ∈ wq_x_ticksToStart, w ∈ lw_tbl := List.forall_mem_append.mpr ⟨(by decide +kernel), List.forall_mem_append.mpr ⟨inKX7, List.forall_mem_append.mpr ⟨inKX8, wi_x_get⟩⟩⟩
set_option maxRecDepth 20000 in
theorem wg_x_ticksToStart : GoodIn wq_x_ticksToStart wq_x_ticksToStart := goodIn_sub (fun _ h => h) (by decide +kernel)
set_option maxRecDepth 20000 in
theorem wc_x_ticksToStart_x_get_86 : GoodIn wq_x_ticksToStart (wsV RX8 86 RJx4a65c yJx4a65c_get_915e3 wq_x_get) := goodIn_app (goodIn_of _ (by decide +kernel)) (fun w h => ⟨List.mem_append_right _ (List.mem_append_right _ (List.mem_append_right _ (h))), (wg_x_get w h).2⟩)
def rm_x_ticksToStart : Room := { frames := 3, cells := 0, slots := 0, locals := 64 }
set_option maxHeartbeats 4000000 in
set_option maxRecDepth 100000 in
theorem c_x_ticksToStart (l : Launch) (dC : Nat → ClassId) (dI : Nat → Nat → Nat) (h : Nat) (a : Nat → Nat) (e : Nat) (cI cJ cO cE : ClassId) (L : Nat → Int64) (I : Nat → Int32) (M : Nat → Nat → Int64) (J : Nat → Nat → Int32) (n cap : Nat) (fE : Nat → Option Nat) (sd : Nat → Nat → Nat) (si : Nat → Nat → Int32) (sa : Nat → Nat → Nat → Int32) (dl : Nat → Nat) (b : Nat) (sv : Nat) (sz : Nat) (hX0 : InvX n cap fE sd dl b I J si) (hb0 : b + 0 < 2147483648) (hp0 : sv < n) : Met l yX8_ticksToStart wq_x_ticksToStart rm_x_ticksToStart (va_Pc [.ref h, .int (nI sv)] (fun U => U.heap.size = sz ∧ va_P (dC, dI) vwCl (xW h a e cI cJ cO cE L I M J n cap fE sd si sa dl) U.heap ∧ va_K (dC, dI) vwCl (xT cI cJ cO cE) U ∧ va_D (fun _ => True) (xW h a e cI cJ cO cE L I M J n cap fE sd si sa dl) ∧ pw_N U)) (va_Qi (fun (r : Int32) (u : Unit) => (True)) (fun (u : Unit) (t : State) => va_P (dC, dI) vwCl (xW h a e cI cJ cO cE L I M J n cap fE sd si sa dl) t.heap ∧ va_D (va_A (xW h a e cI cJ cO cE L I M J n cap fE sd si sa dl) sz) (xW h a e cI cJ cO cE L I M J n cap fE sd si sa dl)) (va_A (xW h a e cI cJ cO cE L I M J n cap fE sd si sa dl) sz)) 0 0 (va_A (xW h a e cI cJ cO cE L I M J n cap fE sd si sa dl) sz) := by
  have hn : n ≤ 40 := hX0.1.1
  have hX := hX0
  refine Met.ofW (cc := cX8_ticksToStart) (maxL := 2) (ret := (some .int)) (by decide) rfl ?_
  intro p e9 s m args below meth c s₁ B hml hv
  obtain ⟨rfl, hsz, hP, hK, hD0, hN⟩ := hv
  have hx := B.exec
  have hb := B.bytes
  have hr := B.returns
  have hts := atoms_spec (ws := wq_x_ticksToStart) B.pre
  have hown : s.vm.findClass RX8 = some m.cls := findClass_of_methodNamed B.named
  have hlocks := B.notSynchronized
  subst hsz
  have hD := hD0.self (sz := s.heap.size)
  generalize hAe : va_A (xW h a e cI cJ cO cE L I M J n cap fE sd si sa dl) s.heap.size = A at hD ⊢
  have hA : ∀ q : Nat, s.heap.size ≤ q → A q := fun q h => by rw [← hAe]; exact Or.inr h
  have hS : va_S A s.heap s.heap [] := va_S.rf
  have hl := lv_entry ([.ref h, .int (nI sv)]) (n := 2) (Nat.le_of_ble_eq_true rfl)
  rw [lg_entry_eq]
  generalize (lg_sl ([.ref h, .int (nI sv)]) ++ List.replicate (2 - (lg_sl ([.ref h, .int (nI sv)])).length) Slot.unset).toArray = ls at hl ⊢
  have hl : lv_has ls 2 [(0, .ref h), (1, .int (nI sv))] := hl
  refine lv_aload_n hx hb dX8_ticksToStart_0 rfl (lv_at hl 0 rfl) ?_
  refine va_get (D := (dC, dI)) (ci := 9) (v := .ref (a 0)) (C := RX8) (T := TX8) (N := 14) hx hb hts in_x_ticksToStart_X8 hown hK hP 0 rfl rfl 0 (by decide) (hts (.fieldLink RX8 10 "ServiceTree" "services" "Ljava/util/ArrayList;") (by decide +kernel)) (fun _ h9 => h9) rfl dX8_ticksToStart_1 ?_
  refine lv_iload_n hx hb dX8_ticksToStart_4 rfl (lv_at hl 1 rfl) ?_
  have hFc := mw_free hD hS hA
  refine va_callr (va_runV (As := [.int (nI sv)]) (rest := []) ⟨hx, hb, hml, hown, hts⟩ (c_x_get l dC dI h a e cI cJ cO cE L I M J n cap fE sd si sa dl (b) sv s.heap.size hX (by omega) (by omega)) (cwV 1 hts wc_x_ticksToStart_x_get_86 rfl rfl rfl (by decide +kernel) ⟨Nat.le_of_ble_eq_true rfl, Nat.le_of_ble_eq_true rfl⟩) ⟨fun a9 U g mk q => by obtain ⟨q0, q1, qP, qK, qD, qN⟩ := q; exact ⟨q0, q1, qP, va_K.moved (u := U) (U := U.calling g mk a9) (Vm.Alike.refl U.vm) qK, qD, pw_N.same (u := U) (U := U.calling g mk a9) rfl qN⟩, va_recv hK hP (ci := 0) (q0 := 1) rfl rfl, fun U hU hW => ⟨rfl, by rw [hU], by rw [hU]; exact hP, va_K.moved hW.alike hK, hD.weaken (fun _ _ _ _ => trivial), pw_N.warm hW hN⟩⟩ rfl rfl hl.1 rfl (lv_room (Nat.le_of_ble_eq_true rfl)) dX8_ticksToStart_5 ⟨Nat.le_of_ble_eq_true rfl, Nat.le_of_ble_eq_true rfl⟩) hS (fun q _ h => hFc q h) hFc (fun u r1 t H1 locs ht hvm hw hB hz1 hk1 hS => ?_)
  obtain ⟨hra, hB⟩ := hB
  replace hP := hB.1
  rw [ht] at hP
  replace hD : va_D A (xW h a e cI cJ cO cE L I M J n cap fE sd si sa dl) := hB.2.weaken (fun _ q _ h9 => hFc q.1 h9)
  clear hB
  generalize H1 = H at hP hS ⊢
  replace hP : va_P (dC, dI) vwCl (xW h a e cI cJ cO cE L I M J n cap fE sd si sa dl) H := hP
  subst hra
  refine va_castS hx hb hown (hts (.classLink RX8 65 RX7) (by decide +kernel)) (hK.1 8 _ rfl).2 (va_recv hK hP (ci := 8) (q0 := (22 + (6 * sv + 0))) rfl (xAt_0 h a e cI cJ cO cE L I M J n cap fE sd si sa dl (s := sv) (by omega))) dX8_ticksToStart_8 ?_
  refine va_getN (D := (dC, dI)) (ci := 8) (v := .int (si sv 1)) (C := RX7) (T := TX7) (N := 12) hx hb hts in_x_ticksToStart_X7 hown hK hP (22 + (6 * sv + 0)) (xAt_0 h a e cI cJ cO cE L I M J n cap fE sd si sa dl (s := sv) (by omega)) rfl 1 (by decide) (va_Nw.use rfl (hN (.fieldLinkNest RX8 280 "ServiceTree$Service" "startTicks" "I" "ServiceTree") (by decide +kernel))) (fun _ h9 => h9) rfl dX8_ticksToStart_11 ?_
  refine lv_topi (fun x2 ex2 => ?_)
  exact W.iret (v := x2) hx hb hr (fun t ht hW => ⟨⟨x2, (), rfl, trivial, by rw [ht]; exact hP, hD⟩, hS.F ht⟩) hS.2.2 dX8_ticksToStart_14
def wq_x_ticksToStop : List Cond := [.code yX8_ticksToStop cX8_ticksToStop 5 (some .int), .fieldLink RX8 10 "ServiceTree" "services" "Ljava/util/ArrayList;", .classLink RX8 65 RX7, .fieldLink RX8 67 "ServiceTree" "now" "I", .methodLink RX8 86 yJx4a65c_get_915e3, .instanceMethod yJx4a65c_get_915e3, .selects RJx4a65c yJx4a65c_get_915e3 yJx4a65c_get_915e3, .initialized RJx4a65c, .methodLink RX8 283 yX7_isDue, .instanceMethod yX7_isDue, .selects RX7 yX7_isDue yX7_isDue, .initialized RX7] ++ (wsX70 ++ (wsX80 ++ (wq_x_get ++ (wq_x_isDue))))
theorem in_x_ticksToStop_X7 : ∀ w ∈ wsX70, w ∈ wq_x_ticksToStop := fun _ h => List.mem_append_right _ (List.mem_append_left _ (h))
theorem in_x_ticksToStop_X8 : ∀ w ∈ wsX80, w ∈ wq_x_ticksToStop := fun _ h => List.mem_append_right _ (List.mem_append_right _ (List.mem_append_left _ (h)))
set_option maxRecDepth 20000 in
theorem wi_x_ticksToStop : ∀ w ∈ wq_x_ticksToStop, w ∈ lw_tbl := List.forall_mem_append.mpr ⟨(by decide +kernel), List.forall_mem_append.mpr ⟨inKX7, List.forall_mem_append.mpr ⟨inKX8, List.forall_mem_append.mpr ⟨wi_x_get, wi_x_isDue⟩⟩⟩⟩
set_option maxRecDepth 20000 in
theorem wg_x_ticksToStop : GoodIn wq_x_ticksToStop wq_x_ticksToStop := goodIn_sub (fun _ h => h) (by decide +kernel)
set_option maxRecDepth 20000 in
theorem wc_x_ticksToStop_x_get_86 : GoodIn wq_x_ticksToStop (wsV RX8 86 RJx4a65c yJx4a65c_get_915e3 wq_x_get) := goodIn_app (goodIn_of _ (by decide +kernel)) (fun w h => ⟨List.mem_append_right _ (List.mem_append_right _ (List.mem_append_right _ (List.mem_append_left _ (h)))), (wg_x_get w h).2⟩)
set_option maxRecDepth 20000 in
theorem wc_x_ticksToStop_x_isDue_283 : GoodIn wq_x_ticksToStop (wsV RX8 283 RX7 yX7_isDue wq_x_isDue) := goodIn_app (goodIn_of _ (by decide +kernel)) (fun w h => ⟨List.mem_append_right _ (List.mem_append_right _ (List.mem_append_right _ (List.mem_append_right _ (h)))), (wg_x_isDue w h).2⟩)
def rm_x_ticksToStop : Room := { frames := 3, cells := 0, slots := 0, locals := 64 }
set_option maxHeartbeats 4000000 in
set_option maxRecDepth 100000 in
theorem c_x_ticksToStop (l : Launch) (dC : Nat → ClassId) (dI : Nat → Nat → Nat) (h : Nat) (a : Nat → Nat) (e : Nat) (cI cJ cO cE : ClassId) (L : Nat → Int64) (I : Nat → Int32) (M : Nat → Nat → Int64) (J : Nat → Nat → Int32) (n cap : Nat) (fE : Nat → Option Nat) (sd : Nat → Nat → Nat) (si : Nat → Nat → Int32) (sa : Nat → Nat → Nat → Int32) (dl : Nat → Nat) (b : Nat) (sv : Nat) (p1 : Int32) (sz : Nat) (hX0 : InvX n cap fE sd dl b I J si) (hb0 : b + 0 < 2147483648) (hp0 : sv < n) : Met l yX8_ticksToStop wq_x_ticksToStop rm_x_ticksToStop (va_Pc [.ref h, .int (nI sv), .int p1] (fun U => U.heap.size = sz ∧ va_P (dC, dI) vwCl (xW h a e cI cJ cO cE L I M J n cap fE sd si sa dl) U.heap ∧ va_K (dC, dI) vwCl (xT cI cJ cO cE) U ∧ va_D (fun _ => True) (xW h a e cI cJ cO cE L I M J n cap fE sd si sa dl) ∧ pw_N U)) (va_Qi (fun (r : Int32) (u : Unit) => (True)) (fun (u : Unit) (t : State) => va_P (dC, dI) vwCl (xW h a e cI cJ cO cE L I M J n cap fE sd si sa dl) t.heap ∧ va_D (va_A (xW h a e cI cJ cO cE L I M J n cap fE sd si sa dl) sz) (xW h a e cI cJ cO cE L I M J n cap fE sd si sa dl)) (va_A (xW h a e cI cJ cO cE L I M J n cap fE sd si sa dl) sz)) 0 0 (va_A (xW h a e cI cJ cO cE L I M J n cap fE sd si sa dl) sz) := by
  have hn : n ≤ 40 := hX0.1.1
  have hX := hX0
  refine Met.ofW (cc := cX8_ticksToStop) (maxL := 5) (ret := (some .int)) (by decide) rfl ?_
  intro p e9 s m args below meth c s₁ B hml hv
  obtain ⟨rfl, hsz, hP, hK, hD0, hN⟩ := hv
  have hx := B.exec
  have hb := B.bytes
  have hr := B.returns
  have hts := atoms_spec (ws := wq_x_ticksToStop) B.pre
  have hown : s.vm.findClass RX8 = some m.cls := findClass_of_methodNamed B.named
  have hlocks := B.notSynchronized
  subst hsz
  have hD := hD0.self (sz := s.heap.size)
  generalize hAe : va_A (xW h a e cI cJ cO cE L I M J n cap fE sd si sa dl) s.heap.size = A at hD ⊢
  have hA : ∀ q : Nat, s.heap.size ≤ q → A q := fun q h => by rw [← hAe]; exact Or.inr h
  have hS : va_S A s.heap s.heap [] := va_S.rf
  have hl := lv_entry ([.ref h, .int (nI sv), .int p1]) (n := 5) (Nat.le_of_ble_eq_true rfl)
  rw [lg_entry_eq]
  generalize (lg_sl ([.ref h, .int (nI sv), .int p1]) ++ List.replicate (5 - (lg_sl ([.ref h, .int (nI sv), .int p1])).length) Slot.unset).toArray = ls at hl ⊢
  have hl : lv_has ls 5 [(0, .ref h), (1, .int (nI sv)), (2, .int p1)] := hl
  refine lv_aload_n hx hb dX8_ticksToStop_0 rfl (lv_at hl 0 rfl) ?_
  refine va_get (D := (dC, dI)) (ci := 9) (v := .ref (a 0)) (C := RX8) (T := TX8) (N := 14) hx hb hts in_x_ticksToStop_X8 hown hK hP 0 rfl rfl 0 (by decide) (hts (.fieldLink RX8 10 "ServiceTree" "services" "Ljava/util/ArrayList;") (by decide +kernel)) (fun _ h9 => h9) rfl dX8_ticksToStop_1 ?_
  refine lv_iload_n hx hb dX8_ticksToStop_4 rfl (lv_at hl 1 rfl) ?_
  have hFc := mw_free hD hS hA
  refine va_callr (va_runV (As := [.int (nI sv)]) (rest := []) ⟨hx, hb, hml, hown, hts⟩ (c_x_get l dC dI h a e cI cJ cO cE L I M J n cap fE sd si sa dl (b) sv s.heap.size hX (by omega) (by omega)) (cwV 1 hts wc_x_ticksToStop_x_get_86 rfl rfl rfl (by decide +kernel) ⟨Nat.le_of_ble_eq_true rfl, Nat.le_of_ble_eq_true rfl⟩) ⟨fun a9 U g mk q => by obtain ⟨q0, q1, qP, qK, qD, qN⟩ := q; exact ⟨q0, q1, qP, va_K.moved (u := U) (U := U.calling g mk a9) (Vm.Alike.refl U.vm) qK, qD, pw_N.same (u := U) (U := U.calling g mk a9) rfl qN⟩, va_recv hK hP (ci := 0) (q0 := 1) rfl rfl, fun U hU hW => ⟨rfl, by rw [hU], by rw [hU]; exact hP, va_K.moved hW.alike hK, hD.weaken (fun _ _ _ _ => trivial), pw_N.warm hW hN⟩⟩ rfl rfl hl.1 rfl (lv_room (Nat.le_of_ble_eq_true rfl)) dX8_ticksToStop_5 ⟨Nat.le_of_ble_eq_true rfl, Nat.le_of_ble_eq_true rfl⟩) hS (fun q _ h => hFc q h) hFc (fun u r1 t H1 locs ht hvm hw hB hz1 hk1 hS => ?_)
  obtain ⟨hra, hB⟩ := hB
  replace hP := hB.1
  rw [ht] at hP
  replace hD : va_D A (xW h a e cI cJ cO cE L I M J n cap fE sd si sa dl) := hB.2.weaken (fun _ q _ h9 => hFc q.1 h9)
  clear hB
  generalize H1 = H at hP hS ⊢
  replace hP : va_P (dC, dI) vwCl (xW h a e cI cJ cO cE L I M J n cap fE sd si sa dl) H := hP
  subst hra
  refine va_castS hx hb hown (hts (.classLink RX8 65 RX7) (by decide +kernel)) (hK.1 8 _ rfl).2 (va_recv hK hP (ci := 8) (q0 := (22 + (6 * sv + 0))) rfl (xAt_0 h a e cI cJ cO cE L I M J n cap fE sd si sa dl (s := sv) (by omega))) dX8_ticksToStop_8 ?_
  refine lv_astore_n (lv' := [(3, .ref (sd sv 0)), (0, .ref h), (1, .int (nI sv)), (2, .int p1)]) hx hb dX8_ticksToStop_11 rfl hl (by decide) rfl (fun ls hl => ?_)
  refine lv_aload_n hx hb dX8_ticksToStop_12 rfl (lv_at hl 0 rfl) ?_
  refine va_getN (D := (dC, dI)) (ci := 8) (v := .int (si sv 6)) (C := RX7) (T := TX7) (N := 12) hx hb hts in_x_ticksToStop_X7 hown hK hP (22 + (6 * sv + 0)) (xAt_0 h a e cI cJ cO cE L I M J n cap fE sd si sa dl (s := sv) (by omega)) rfl 6 (by decide) (va_Nw.use rfl (hN (.fieldLinkNest RX8 162 "ServiceTree$Service" "state" "I" "ServiceTree") (by decide +kernel))) (fun _ h9 => h9) rfl dX8_ticksToStop_13 ?_
  obtain ⟨z2, hz2, ez2⟩ := hX.2.2.2.1 sv
  refine p1_topr (v := .int (nI z2)) (congrArg Value.int ez2) ?_
  refine lv_iconst (v := 5) hx hb dX8_ticksToStop_16 (by decide) ?_
  refine lv_icmp_ne (tgt := 41) hx hb dX8_ticksToStop_17 (by decide) (fun c3 => ?_) (fun c3 => ?_)
  · replace c3 : ¬ (z2 = 5) := fun q9 => c3 ((nI_eq (a := z2) (b := 5) (by omega) (by omega)).mpr q9)
    refine lv_iconst (v := 0) hx hb dX8_ticksToStop_41 (by decide) ?_
    refine lv_istore (lv' := [(4, .int 0), (3, .ref (sd sv 0)), (0, .ref h), (1, .int (nI sv)), (2, .int p1)]) hx hb dX8_ticksToStop_42 hl (by decide) rfl (fun ls hl => ?_)
    refine lv_iload hx hb dX8_ticksToStop_44 (lv_at hl 0 rfl) ?_
    refine lv_if_eq (tgt := 53) hx hb dX8_ticksToStop_46 (by decide) (fun _ => ?_) (fun c9 => absurd (by decide) c9)
    refine lv_aload_n hx hb dX8_ticksToStop_53 rfl (lv_at hl 1 rfl) ?_
    refine va_getN (D := (dC, dI)) (ci := 8) (v := .int (si sv 2)) (C := RX7) (T := TX7) (N := 12) hx hb hts in_x_ticksToStop_X7 hown hK hP (22 + (6 * sv + 0)) (xAt_0 h a e cI cJ cO cE L I M J n cap fE sd si sa dl (s := sv) (by omega)) rfl 2 (by decide) (va_Nw.use rfl (hN (.fieldLinkNest RX8 286 "ServiceTree$Service" "stopTicks" "I" "ServiceTree") (by decide +kernel))) (fun _ h9 => h9) rfl dX8_ticksToStop_54 ?_
    refine lv_topi (fun x4 ex4 => ?_)
    exact W.iret (v := x4) hx hb hr (fun t ht hW => ⟨⟨x4, (), rfl, trivial, by rw [ht]; exact hP, hD⟩, hS.F ht⟩) hS.2.2 dX8_ticksToStop_57
  · replace c3 : z2 = 5 := (nI_eq (a := z2) (b := 5) (by omega) (by omega)).mp c3
    refine lv_iload_n hx hb dX8_ticksToStop_20 rfl (lv_at hl 3 rfl) ?_
    refine lv_if_eq (tgt := 37) hx hb dX8_ticksToStop_21 (by decide) (fun c5 => ?_) (fun c5 => ?_)
    · refine lv_iconst (v := 1) hx hb dX8_ticksToStop_37 (by decide) ?_
      refine lv_goto (tgt := 42) hx hb dX8_ticksToStop_38 (by decide) ?_
      refine lv_istore (lv' := [(4, .int 1), (3, .ref (sd sv 0)), (0, .ref h), (1, .int (nI sv)), (2, .int p1)]) hx hb dX8_ticksToStop_42 hl (by decide) rfl (fun ls hl => ?_)
      refine lv_iload hx hb dX8_ticksToStop_44 (lv_at hl 0 rfl) ?_
      refine lv_if_eq (tgt := 53) hx hb dX8_ticksToStop_46 (by decide) (fun c9 => absurd c9 (by decide)) (fun _ => ?_)
      refine lv_iconst (v := 0) hx hb dX8_ticksToStop_49 (by decide) ?_
      refine lv_goto (tgt := 57) hx hb dX8_ticksToStop_50 (by decide) ?_
      exact W.iret (v := 0) hx hb hr (fun t ht hW => ⟨⟨0, (), rfl, trivial, by rw [ht]; exact hP, hD⟩, hS.F ht⟩) hS.2.2 dX8_ticksToStop_57
    · refine lv_aload_n hx hb dX8_ticksToStop_24 rfl (lv_at hl 0 rfl) ?_
      refine lv_aload_n hx hb dX8_ticksToStop_25 rfl (lv_at hl 1 rfl) ?_
      refine va_get (D := (dC, dI)) (ci := 9) (v := .int (I 0)) (C := RX8) (T := TX8) (N := 14) hx hb hts in_x_ticksToStop_X8 hown hK hP 0 rfl rfl 9 (by decide) (hts (.fieldLink RX8 67 "ServiceTree" "now" "I") (by decide +kernel)) (fun _ h9 => h9) rfl dX8_ticksToStop_26 ?_
      refine lv_topi (fun x6 ex6 => ?_)
      refine lv_iload_n hx hb dX8_ticksToStop_29 rfl (lv_at hl 3 rfl) ?_
      refine lv_iadd hx hb dX8_ticksToStop_30 ?_
      refine lv_topi (fun x7 ex7 => ?_)
      have hFc := mw_free hD hS hA
      refine va_calli (va_runV (As := [.int x7]) (rest := []) ⟨hx, hb, hml, hown, hts⟩ (c_x_isDue l dC dI h a e cI cJ cO cE L I M J n cap fE sd si sa dl (b) sv x7 H.size hX (by omega) (by omega)) (cwV 1 hts wc_x_ticksToStop_x_isDue_283 rfl rfl rfl (by decide +kernel) ⟨Nat.le_of_ble_eq_true rfl, Nat.le_of_ble_eq_true rfl⟩) ⟨fun a9 U g mk q => by obtain ⟨q0, q1, qP, qK, qD, qN⟩ := q; exact ⟨q0, q1, qP, va_K.moved (u := U) (U := U.calling g mk a9) (Vm.Alike.refl U.vm) qK, qD, pw_N.same (u := U) (U := U.calling g mk a9) rfl qN⟩, va_recv hK hP (ci := 8) (q0 := (22 + (6 * sv + 0))) rfl (xAt_0 h a e cI cJ cO cE L I M J n cap fE sd si sa dl (s := sv) (by omega)), fun U hU hW => ⟨rfl, by rw [hU], by rw [hU]; exact hP, va_K.moved hW.alike hK, hD.weaken (fun _ _ _ _ => trivial), pw_N.warm hW hN⟩⟩ rfl rfl hl.1 rfl (lv_room (Nat.le_of_ble_eq_true rfl)) dX8_ticksToStop_31 ⟨Nat.le_of_ble_eq_true rfl, Nat.le_of_ble_eq_true rfl⟩) hS (fun q _ h => hFc q h) hFc (fun r8 u t H1 locs ht hvm hw hB hz1 hk1 hS => ?_)
      replace hP := hB.1
      rw [ht] at hP
      replace hD : va_D A (xW h a e cI cJ cO cE L I M J n cap fE sd si sa dl) := hB.2.weaken (fun _ q _ h9 => hFc q.1 h9)
      clear hB
      generalize H1 = H at hP hS ⊢
      replace hP : va_P (dC, dI) vwCl (xW h a e cI cJ cO cE L I M J n cap fE sd si sa dl) H := hP
      refine lv_if_ne (tgt := 41) hx hb dX8_ticksToStop_34 (by decide) (fun c9 => ?_) (fun c9 => ?_)
      · refine lv_iconst (v := 0) hx hb dX8_ticksToStop_41 (by decide) ?_
        refine lv_istore (lv' := [(4, .int 0), (3, .ref (sd sv 0)), (0, .ref h), (1, .int (nI sv)), (2, .int p1)]) hx hb dX8_ticksToStop_42 hl (by decide) rfl (fun ls hl => ?_)
        refine lv_iload hx hb dX8_ticksToStop_44 (lv_at hl 0 rfl) ?_
        refine lv_if_eq (tgt := 53) hx hb dX8_ticksToStop_46 (by decide) (fun _ => ?_) (fun c9 => absurd (by decide) c9)
        refine lv_aload_n hx hb dX8_ticksToStop_53 rfl (lv_at hl 1 rfl) ?_
        refine va_getN (D := (dC, dI)) (ci := 8) (v := .int (si sv 2)) (C := RX7) (T := TX7) (N := 12) hx hb hts in_x_ticksToStop_X7 hown hK hP (22 + (6 * sv + 0)) (xAt_0 h a e cI cJ cO cE L I M J n cap fE sd si sa dl (s := sv) (by omega)) rfl 2 (by decide) (va_Nw.use rfl (hN (.fieldLinkNest RX8 286 "ServiceTree$Service" "stopTicks" "I" "ServiceTree") (by decide +kernel))) (fun _ h9 => h9) rfl dX8_ticksToStop_54 ?_
        refine lv_topi (fun x10 ex10 => ?_)
        exact W.iret (v := x10) hx hb hr (fun t ht hW => ⟨⟨x10, (), rfl, trivial, by rw [ht]; exact hP, hD⟩, hS.F ht⟩) hS.2.2 dX8_ticksToStop_57
      · refine lv_iconst (v := 1) hx hb dX8_ticksToStop_37 (by decide) ?_
        refine lv_goto (tgt := 42) hx hb dX8_ticksToStop_38 (by decide) ?_
        refine lv_istore (lv' := [(4, .int 1), (3, .ref (sd sv 0)), (0, .ref h), (1, .int (nI sv)), (2, .int p1)]) hx hb dX8_ticksToStop_42 hl (by decide) rfl (fun ls hl => ?_)
        refine lv_iload hx hb dX8_ticksToStop_44 (lv_at hl 0 rfl) ?_
        refine lv_if_eq (tgt := 53) hx hb dX8_ticksToStop_46 (by decide) (fun c9 => absurd c9 (by decide)) (fun _ => ?_)
        refine lv_iconst (v := 0) hx hb dX8_ticksToStop_49 (by decide) ?_
        refine lv_goto (tgt := 57) hx hb dX8_ticksToStop_50 (by decide) ?_
        exact W.iret (v := 0) hx hb hr (fun t ht hW => ⟨⟨0, (), rfl, trivial, by rw [ht]; exact hP, hD⟩, hS.F ht⟩) hS.2.2 dX8_ticksToStop_57
def wq_x_layOutDraft : List Cond := [.code yX8_layOutDraft cX8_layOutDraft 10 none, .fieldLink RX8 28 "ServiceTree" "draft" "LServiceTree$Draft;", .fieldLink RX8 42 "ServiceTree" "latestPlan" "LServiceTree$Plan;", .fieldLink RX8 10 "ServiceTree" "services" "Ljava/util/ArrayList;", .fieldLink RX8 19 "ServiceTree" "relations" "LServiceTree$Relations;", .constantLong RX8 238 (-1), .methodLink RX8 263 yX4_clear, .instanceMethod yX4_clear, .selects RX4 yX4_clear yX4_clear, .initialized RX4, .methodLink RX8 61 yJx4a65c_size_8abf5, .instanceMethod yJx4a65c_size_8abf5, .selects RJx4a65c yJx4a65c_size_8abf5 yJx4a65c_size_8abf5, .initialized RJx4a65c, .methodLink RX8 114 yX8_holds, .static yX8_holds, .initialized RX8, .methodLink RX8 267 yX5_awaitedBy, .instanceMethod yX5_awaitedBy, .selects RX5 yX5_awaitedBy yX5_awaitedBy, .initialized RX5, .methodLink RX8 270 yX4_endOf, .instanceMethod yX4_endOf, .selects RX4 yX4_endOf yX4_endOf, .methodLink RX8 276 yX8_ticksToStop, .instanceMethod yX8_ticksToStop, .selects RX8 yX8_ticksToStop yX8_ticksToStop, .methodLink RX8 279 yX4_add, .instanceMethod yX4_add, .selects RX4 yX4_add yX4_add, .methodLink RX8 78 yX8_only, .static yX8_only, .methodLink RX8 273 yX8_ticksToStart, .instanceMethod yX8_ticksToStart, .selects RX8 yX8_ticksToStart yX8_ticksToStart] ++ (wsX10 ++ (wsX80 ++ (wq_x_planClear ++ (wq_x_size ++ (wq_x_holds ++ (wq_x_rawaited ++ (wq_x_endOf ++ (wq_x_ticksToStop ++ (wq_x_padd ++ (wq_x_only ++ (wq_x_ticksToStart)))))))))))
theorem in_x_layOutDraft_X1 : ∀ w ∈ wsX10, w ∈ wq_x_layOutDraft := fun _ h => List.mem_append_right _ (List.mem_append_left _ (h))
theorem in_x_layOutDraft_X8 : ∀ w ∈ wsX80, w ∈ wq_x_layOutDraft := fun _ h => List.mem_append_right _ (List.mem_append_right _ (List.mem_append_left _ (h)))
set_option maxRecDepth 20000 in
theorem wi_x_layOutDraft : ∀ w ∈ wq_x_layOutDraft, w ∈ lw_tbl := List.forall_mem_append.mpr ⟨(by decide +kernel), List.forall_mem_append.mpr ⟨inKX1, List.forall_mem_append.mpr ⟨inKX8, List.forall_mem_append.mpr ⟨wi_x_planClear, List.forall_mem_append.mpr ⟨wi_x_size, List.forall_mem_append.mpr ⟨wi_x_holds, List.forall_mem_append.mpr ⟨wi_x_rawaited, List.forall_mem_append.mpr ⟨wi_x_endOf, List.forall_mem_append.mpr ⟨wi_x_ticksToStop, List.forall_mem_append.mpr ⟨wi_x_padd, List.forall_mem_append.mpr ⟨wi_x_only, wi_x_ticksToStart⟩⟩⟩⟩⟩⟩⟩⟩⟩⟩⟩
set_option maxRecDepth 20000 in
theorem wg_x_layOutDraft : GoodIn wq_x_layOutDraft wq_x_layOutDraft := goodIn_sub (fun _ h => h) (by decide +kernel)
set_option maxRecDepth 20000 in
theorem wc_x_layOutDraft_x_planClear_263 : GoodIn wq_x_layOutDraft (wsV RX8 263 RX4 yX4_clear wq_x_planClear) := goodIn_app (goodIn_of _ (by decide +kernel)) (fun w h => ⟨List.mem_append_right _ (List.mem_append_right _ (List.mem_append_right _ (List.mem_append_left _ (h)))), (wg_x_planClear w h).2⟩)
set_option maxRecDepth 20000 in
theorem wc_x_layOutDraft_x_size_61 : GoodIn wq_x_layOutDraft (wsV RX8 61 RJx4a65c yJx4a65c_size_8abf5 wq_x_size) := goodIn_app (goodIn_of _ (by decide +kernel)) (fun w h => ⟨List.mem_append_right _ (List.mem_append_right _ (List.mem_append_right _ (List.mem_append_right _ (List.mem_append_left _ (h))))), (wg_x_size w h).2⟩)
set_option maxRecDepth 20000 in
theorem wc_x_layOutDraft_x_holds_114 : GoodIn wq_x_layOutDraft (va_wsS RX8 114 yX8_holds wq_x_holds) := goodIn_app (goodIn_of _ (by decide +kernel)) (fun w h => ⟨List.mem_append_right _ (List.mem_append_right _ (List.mem_append_right _ (List.mem_append_right _ (List.mem_append_right _ (List.mem_append_left _ (h)))))), (wg_x_holds w h).2⟩)
set_option maxRecDepth 20000 in
theorem wc_x_layOutDraft_x_rawaited_267 : GoodIn wq_x_layOutDraft (wsV RX8 267 RX5 yX5_awaitedBy wq_x_rawaited) := goodIn_app (goodIn_of _ (by decide +kernel)) (fun w h => ⟨List.mem_append_right _ (List.mem_append_right _ (List.mem_append_right _ (List.mem_append_right _ (List.mem_append_right _ (List.mem_append_right _ (List.mem_append_left _ (h))))))), (wg_x_rawaited w h).2⟩)
set_option maxRecDepth 20000 in
theorem wc_x_layOutDraft_x_endOf_270 : GoodIn wq_x_layOutDraft (wsV RX8 270 RX4 yX4_endOf wq_x_endOf) := goodIn_app (goodIn_of _ (by decide +kernel)) (fun w h => ⟨List.mem_append_right _ (List.mem_append_right _ (List.mem_append_right _ (List.mem_append_right _ (List.mem_append_right _ (List.mem_append_right _ (List.mem_append_right _ (List.mem_append_left _ (h)))))))), (wg_x_endOf w h).2⟩)
set_option maxRecDepth 20000 in
theorem wc_x_layOutDraft_x_ticksToStop_276 : GoodIn wq_x_layOutDraft (wsV RX8 276 RX8 yX8_ticksToStop wq_x_ticksToStop) := goodIn_app (goodIn_of _ (by decide +kernel)) (fun w h => ⟨List.mem_append_right _ (List.mem_append_right _ (List.mem_append_right _ (List.mem_append_right _ (List.mem_append_right _ (List.mem_append_right _ (List.mem_append_right _ (List.mem_append_right _ (List.mem_append_left _ (h))))))))), (wg_x_ticksToStop w h).2⟩)
set_option maxRecDepth 20000 in
theorem wc_x_layOutDraft_x_padd_279 : GoodIn wq_x_layOutDraft (wsV RX8 279 RX4 yX4_add wq_x_padd) := goodIn_app (goodIn_of _ (by decide +kernel)) (fun w h => ⟨List.mem_append_right _ (List.mem_append_right _ (List.mem_append_right _ (List.mem_append_right _ (List.mem_append_right _ (List.mem_append_right _ (List.mem_append_right _ (List.mem_append_right _ (List.mem_append_right _ (List.mem_append_left _ (h)))))))))), (wg_x_padd w h).2⟩)
set_option maxRecDepth 20000 in
theorem wc_x_layOutDraft_x_only_78 : GoodIn wq_x_layOutDraft (va_wsS RX8 78 yX8_only wq_x_only) := goodIn_app (goodIn_of _ (by decide +kernel)) (fun w h => ⟨List.mem_append_right _ (List.mem_append_right _ (List.mem_append_right _ (List.mem_append_right _ (List.mem_append_right _ (List.mem_append_right _ (List.mem_append_right _ (List.mem_append_right _ (List.mem_append_right _ (List.mem_append_right _ (List.mem_append_left _ (h))))))))))), (wg_x_only w h).2⟩)
set_option maxRecDepth 20000 in
theorem wc_x_layOutDraft_x_ticksToStart_273 : GoodIn wq_x_layOutDraft (wsV RX8 273 RX8 yX8_ticksToStart wq_x_ticksToStart) := goodIn_app (goodIn_of _ (by decide +kernel)) (fun w h => ⟨List.mem_append_right _ (List.mem_append_right _ (List.mem_append_right _ (List.mem_append_right _ (List.mem_append_right _ (List.mem_append_right _ (List.mem_append_right _ (List.mem_append_right _ (List.mem_append_right _ (List.mem_append_right _ (List.mem_append_right _ (h))))))))))), (wg_x_ticksToStart w h).2⟩)
def rm_x_layOutDraft : Room := { frames := 4, cells := 0, slots := 0, locals := 88 }
set_option maxHeartbeats 4000000 in
set_option maxRecDepth 100000 in
theorem c_x_layOutDraft (l : Launch) (dC : Nat → ClassId) (dI : Nat → Nat → Nat) (h : Nat) (a : Nat → Nat) (e : Nat) (cI cJ cO cE : ClassId) (L : Nat → Int64) (I : Nat → Int32) (M : Nat → Nat → Int64) (J : Nat → Nat → Int32) (n cap : Nat) (fE : Nat → Option Nat) (sd : Nat → Nat → Nat) (si : Nat → Nat → Int32) (sa : Nat → Nat → Nat → Int32) (dl : Nat → Nat) (b : Nat)  (sz : Nat) (hX0 : InvX n cap fE sd dl b I J si) (hb0 : b + 0 < 2147483648)  : Met l yX8_layOutDraft wq_x_layOutDraft rm_x_layOutDraft (va_Pc [.ref h] (fun U => U.heap.size = sz ∧ va_P (dC, dI) vwCl (xW h a e cI cJ cO cE L I M J n cap fE sd si sa dl) U.heap ∧ va_K (dC, dI) vwCl (xT cI cJ cO cE) U ∧ va_D (fun _ => True) (xW h a e cI cJ cO cE L I M J n cap fE sd si sa dl) ∧ pw_N U)) (va_Qv (fun (u : (Nat → Int64) × (Nat → Int32) × (Nat → Nat → Int32)) => InvX n cap fE sd dl (b + 0) u.2.1 u.2.2 si ∧ (∀ j9 : Nat, j9 ∉ ([8] : List Nat) → u.1 j9 = L j9) ∧ (∀ j9 : Nat, j9 ∉ ([9, 10, 11] : List Nat) → u.2.1 j9 = I j9) ∧ (∀ j9 : Nat, j9 ∉ ([0, 1, 2] : List Nat) → u.2.2 j9 = J j9) ∧ (True)) (fun (u : (Nat → Int64) × (Nat → Int32) × (Nat → Nat → Int32)) (t : State) => va_P (dC, dI) vwCl (xW h a e cI cJ cO cE u.1 u.2.1 M u.2.2 n cap fE sd si sa dl) t.heap ∧ va_D (va_A (xW h a e cI cJ cO cE L I M J n cap fE sd si sa dl) sz) (xW h a e cI cJ cO cE u.1 u.2.1 M u.2.2 n cap fE sd si sa dl)) (va_A (xW h a e cI cJ cO cE L I M J n cap fE sd si sa dl) sz)) 0 0 (va_A (xW h a e cI cJ cO cE L I M J n cap fE sd si sa dl) sz) := by
  have hn : n ≤ 40 := hX0.1.1
  have hX := hX0
  have hUL : ∀ j9 : Nat, j9 ∉ ([8] : List Nat) → L j9 = L j9 := fun _ _ => rfl
  have hUI : ∀ j9 : Nat, j9 ∉ ([9, 10, 11] : List Nat) → I j9 = I j9 := fun _ _ => rfl
  have hUJ : ∀ j9 : Nat, j9 ∉ ([0, 1, 2] : List Nat) → J j9 = J j9 := fun _ _ => rfl
  refine Met.ofW (cc := cX8_layOutDraft) (maxL := 10) (ret := none) (by decide) rfl ?_
  intro p e9 s m args below meth c s₁ B hml hv
  obtain ⟨rfl, hsz, hP, hK, hD0, hN⟩ := hv
  have hx := B.exec
  have hb := B.bytes
  have hr := B.returns
  have hts := atoms_spec (ws := wq_x_layOutDraft) B.pre
  have hown : s.vm.findClass RX8 = some m.cls := findClass_of_methodNamed B.named
  have hlocks := B.notSynchronized
  subst hsz
  have hD := hD0.self (sz := s.heap.size)
  generalize hAe : va_A (xW h a e cI cJ cO cE L I M J n cap fE sd si sa dl) s.heap.size = A at hD ⊢
  have hA : ∀ q : Nat, s.heap.size ≤ q → A q := fun q h => by rw [← hAe]; exact Or.inr h
  have hS : va_S A s.heap s.heap [] := va_S.rf
  have hl := lv_entry ([.ref h]) (n := 10) (Nat.le_of_ble_eq_true rfl)
  rw [lg_entry_eq]
  generalize (lg_sl ([.ref h]) ++ List.replicate (10 - (lg_sl ([.ref h])).length) Slot.unset).toArray = ls at hl ⊢
  have hl : lv_has ls 10 [(0, .ref h)] := hl
  refine mw_Q (fun Q0 hQ => ?_)
  refine lv_aload_n hx hb dX8_layOutDraft_0 rfl (lv_at hl 0 rfl) ?_
  refine va_get (D := (dC, dI)) (ci := 9) (v := .ref (a 2)) (C := RX8) (T := TX8) (N := 14) hx hb hts in_x_layOutDraft_X8 hown hK hP 0 rfl rfl 2 (by decide) (hts (.fieldLink RX8 28 "ServiceTree" "draft" "LServiceTree$Draft;") (by decide +kernel)) (fun _ h9 => h9) rfl dX8_layOutDraft_1 ?_
  refine va_getN (D := (dC, dI)) (ci := 2) (v := .long (L 3)) (C := RX1) (T := TX1) (N := 5) hx hb hts in_x_layOutDraft_X1 hown hK hP 13 rfl rfl 2 (by decide) (va_Nw.use rfl (hN (.fieldLinkNest RX8 247 "ServiceTree$Draft" "starts" "J" "ServiceTree") (by decide +kernel))) (fun _ h9 => h9) rfl dX8_layOutDraft_4 ?_
  refine lv_topl (fun x1 ex1 => ?_)
  refine lv_lstore_n (lv' := [(1, .long x1), (0, .ref h)]) hx hb dX8_layOutDraft_7 rfl hl (by decide) rfl (fun ls hl => ?_)
  refine lv_aload_n hx hb dX8_layOutDraft_8 rfl (lv_at hl 1 rfl) ?_
  refine va_get (D := (dC, dI)) (ci := 9) (v := .ref (a 2)) (C := RX8) (T := TX8) (N := 14) hx hb hts in_x_layOutDraft_X8 hown hK hP 0 rfl rfl 2 (by decide) (hts (.fieldLink RX8 28 "ServiceTree" "draft" "LServiceTree$Draft;") (by decide +kernel)) (fun _ h9 => h9) rfl dX8_layOutDraft_9 ?_
  refine va_getN (D := (dC, dI)) (ci := 2) (v := .long (L 4)) (C := RX1) (T := TX1) (N := 5) hx hb hts in_x_layOutDraft_X1 hown hK hP 13 rfl rfl 3 (by decide) (va_Nw.use rfl (hN (.fieldLinkNest RX8 253 "ServiceTree$Draft" "stops" "J" "ServiceTree") (by decide +kernel))) (fun _ h9 => h9) rfl dX8_layOutDraft_12 ?_
  refine lv_topl (fun x2 ex2 => ?_)
  refine lv_lstore_n (lv' := [(3, .long x2), (1, .long x1), (0, .ref h)]) hx hb dX8_layOutDraft_15 rfl hl (by decide) rfl (fun ls hl => ?_)
  refine lv_lload_n hx hb dX8_layOutDraft_16 rfl (lv_at hl 1 rfl) ?_
  refine lv_lload_n hx hb dX8_layOutDraft_17 rfl (lv_at hl 0 rfl) ?_
  refine lv_lor hx hb dX8_layOutDraft_18 ?_
  refine lv_topl (fun x3 ex3 => ?_)
  refine lv_lstore (lv' := [(5, .long x3), (3, .long x2), (1, .long x1), (0, .ref h)]) hx hb dX8_layOutDraft_19 hl (by decide) rfl (fun ls hl => ?_)
  refine lv_aload_n hx hb dX8_layOutDraft_21 rfl (lv_at hl 3 rfl) ?_
  refine va_get (D := (dC, dI)) (ci := 9) (v := .ref (a 4)) (C := RX8) (T := TX8) (N := 14) hx hb hts in_x_layOutDraft_X8 hown hK hP 0 rfl rfl 4 (by decide) (hts (.fieldLink RX8 42 "ServiceTree" "latestPlan" "LServiceTree$Plan;") (by decide +kernel)) (fun _ h9 => h9) rfl dX8_layOutDraft_22 ?_
  refine lv_lload_n hx hb dX8_layOutDraft_25 rfl (lv_at hl 2 rfl) ?_
  have hFc := mw_free hD hS hA
  refine va_callv (va_runV (As := [.long x1]) (rest := []) ⟨hx, hb, hml, hown, hts⟩ (c_x_planClear l dC dI h a e cI cJ cO cE L I M J n cap fE sd si sa dl (b) x1 s.heap.size hX (by omega) ) (cwV 1 hts wc_x_layOutDraft_x_planClear_263 rfl rfl rfl (by decide +kernel) ⟨Nat.le_of_ble_eq_true rfl, Nat.le_of_ble_eq_true rfl⟩) ⟨fun a9 U g mk q => by obtain ⟨q0, q1, qP, qK, qD, qN⟩ := q; exact ⟨q0, q1, qP, va_K.moved (u := U) (U := U.calling g mk a9) (Vm.Alike.refl U.vm) qK, qD, pw_N.same (u := U) (U := U.calling g mk a9) rfl qN⟩, va_recv hK hP (ci := 5) (q0 := 15) rfl rfl, fun U hU hW => ⟨rfl, by rw [hU], by rw [hU]; exact hP, va_K.moved hW.alike hK, hD.weaken (fun _ _ _ _ => trivial), pw_N.warm hW hN⟩⟩ rfl rfl hl.1 rfl (lv_room (Nat.le_of_ble_eq_true rfl)) dX8_layOutDraft_26 ⟨Nat.le_of_ble_eq_true rfl, Nat.le_of_ble_eq_true rfl⟩) hS (fun q _ h => hFc q h) hFc (fun u t H1 locs ht hvm hw hB hz1 hk1 hS => ?_)
  obtain ⟨L5, I6⟩ := u
  replace hP := hB.1
  rw [ht] at hP
  replace hD : va_D A (xW h a e cI cJ cO cE L5 I6 M J n cap fE sd si sa dl) := hB.2.weaken (fun _ q _ h9 => hFc q.1 h9)
  clear hB
  generalize H1 = H at hP hS ⊢
  replace hP : va_P (dC, dI) vwCl (xW h a e cI cJ cO cE L5 I6 M J n cap fE sd si sa dl) H := hP
  obtain ⟨hwX, whUL, whUI, hw⟩ := hw
  replace hX : InvX n cap fE sd dl (b) I6 J si := hwX
  replace hUL : ∀ j9 : Nat, j9 ∉ ([8] : List Nat) → L5 j9 = L j9 := mw_tr (by decide) whUL hUL
  replace hUI : ∀ j9 : Nat, j9 ∉ ([9, 10, 11] : List Nat) → I6 j9 = I j9 := mw_tr (by decide) whUI hUI
  refine lv_iconst (v := 0) hx hb dX8_layOutDraft_29 (by decide) ?_
  refine lv_istore (lv' := [(7, .int 0), (5, .long x3), (3, .long x2), (1, .long x1), (0, .ref h)]) hx hb dX8_layOutDraft_30 hl (by decide) rfl (fun ls hl => ?_)
  have lp10 : ∀ (fu8 i7 : Nat) (y13 : Int64) (I11 : Nat → Int32) (J12 : Nat → Nat → Int32) (H : Heap) (locs : List Loc) (ls : Array Slot), 40 < i7 + fu8 → i7 ≤ 40 → InvX n cap fE sd dl (b) I11 J12 si → (∀ j9 : Nat, j9 ∉ ([9, 10, 11] : List Nat) → I11 j9 = I j9) → (∀ j9 : Nat, j9 ∉ ([0, 1, 2] : List Nat) → J12 j9 = J j9) → va_P (dC, dI) vwCl (xW h a e cI cJ cO cE L5 I11 M J12 n cap fE sd si sa dl) H → va_D A (xW h a e cI cJ cO cE L5 I11 M J12 n cap fE sd si sa dl) → va_S A s.heap H locs → lv_has ls 10 [(7, .int (nI i7)), (5, .long y13), (3, .long x2), (1, .long x1), (0, .ref h)] → W p l e9 (headSpec wq_x_layOutDraft rm_x_layOutDraft).room s m ([.ref h] : List Value).toArray below meth c H locs 0 0 Q0 (F0 m 32 ls []) := by
    intro fu8
    induction fu8 with
    | zero =>
      intro i7 y13 I11 J12 H locs ls hf hi
      exact absurd hf (by omega)
    | succ fu8 ih9 =>
      intro i7 y13 I11 J12 H locs ls hfi7 hii7 hX hUI hUJ hP hD hS hl
      refine lv_iload hx hb dX8_layOutDraft_32 (lv_at hl 0 rfl) ?_
      refine lv_bipush (v := 40) hx hb dX8_layOutDraft_34 (by decide) ?_
      refine lv_icmp_ge (tgt := 176) hx hb dX8_layOutDraft_36 (by decide) (fun c14 => ?_) (fun c14 => ?_)
      · replace c14 : 40 ≤ i7 := (nI_leI (a := 40) (b := i7) (by omega) (by omega)).mp c14
        rw [hQ]
        exact W.vret hx hb hr (fun t ht hW => ⟨⟨(L5, I11, J12), rfl, ⟨hX.mono (by omega), hUL, hUI, hUJ, trivial⟩, by rw [ht]; exact hP, hD⟩, hS.F ht⟩) hS.2.2 dX8_layOutDraft_176
      · replace c14 : ¬ (40 ≤ i7) := fun q9 => c14 ((nI_leI (a := 40) (b := i7) (by omega) (by omega)).mpr q9)
        refine lv_lload hx hb dX8_layOutDraft_39 (lv_at hl 1 rfl) ?_
        refine lv_lconst (v := 0) hx hb dX8_layOutDraft_41 (by decide) ?_
        refine W.lcmp hx hb dX8_layOutDraft_42 ?_
        refine lv_topi (fun x15 ex15 => ?_)
        refine lv_if_eq (tgt := 176) hx hb dX8_layOutDraft_43 (by decide) (fun c16 => ?_) (fun c16 => ?_)
        · rw [hQ]
          exact W.vret hx hb hr (fun t ht hW => ⟨⟨(L5, I11, J12), rfl, ⟨hX.mono (by omega), hUL, hUI, hUJ, trivial⟩, by rw [ht]; exact hP, hD⟩, hS.F ht⟩) hS.2.2 dX8_layOutDraft_176
        · refine lv_iconst (v := 0) hx hb dX8_layOutDraft_46 (by decide) ?_
          refine lv_istore (lv' := [(8, .int 0), (7, .int (nI i7)), (5, .long y13), (3, .long x2), (1, .long x1), (0, .ref h)]) hx hb dX8_layOutDraft_47 hl (by decide) rfl (fun ls hl => ?_)
          have lp20 : ∀ (fu18 i17 : Nat) (y23 : Int64) (I21 : Nat → Int32) (J22 : Nat → Nat → Int32) (H : Heap) (locs : List Loc) (ls : Array Slot), n < i17 + fu18 → i17 ≤ n → InvX n cap fE sd dl (b) I21 J22 si → (∀ j9 : Nat, j9 ∉ ([9, 10, 11] : List Nat) → I21 j9 = I j9) → (∀ j9 : Nat, j9 ∉ ([0, 1, 2] : List Nat) → J22 j9 = J j9) → va_P (dC, dI) vwCl (xW h a e cI cJ cO cE L5 I21 M J22 n cap fE sd si sa dl) H → va_D A (xW h a e cI cJ cO cE L5 I21 M J22 n cap fE sd si sa dl) → va_S A s.heap H locs → lv_has ls 10 [(8, .int (nI i17)), (7, .int (nI i7)), (5, .long y23), (3, .long x2), (1, .long x1), (0, .ref h)] → W p l e9 (headSpec wq_x_layOutDraft rm_x_layOutDraft).room s m ([.ref h] : List Value).toArray below meth c H locs 0 0 Q0 (F0 m 49 ls []) := by
            intro fu18
            induction fu18 with
            | zero =>
              intro i17 y23 I21 J22 H locs ls hf hi
              exact absurd hf (by omega)
            | succ fu18 ih19 =>
              intro i17 y23 I21 J22 H locs ls hfi17 hii17 hX hUI hUJ hP hD hS hl
              refine lv_iload hx hb dX8_layOutDraft_49 (lv_at hl 0 rfl) ?_
              refine lv_aload_n hx hb dX8_layOutDraft_51 rfl (lv_at hl 5 rfl) ?_
              refine va_get (D := (dC, dI)) (ci := 9) (v := .ref (a 0)) (C := RX8) (T := TX8) (N := 14) hx hb hts in_x_layOutDraft_X8 hown hK hP 0 rfl rfl 0 (by decide) (hts (.fieldLink RX8 10 "ServiceTree" "services" "Ljava/util/ArrayList;") (by decide +kernel)) (fun _ h9 => h9) rfl dX8_layOutDraft_52 ?_
              have hFc := mw_free hD hS hA
              refine va_calli (va_runV (As := []) (rest := [.int (nI i17)]) ⟨hx, hb, hml, hown, hts⟩ (c_x_size l dC dI h a e cI cJ cO cE L5 I21 M J22 n cap fE sd si sa dl (b)  H.size hX (by omega) ) (cwV 0 hts wc_x_layOutDraft_x_size_61 rfl rfl rfl (by decide +kernel) ⟨Nat.le_of_ble_eq_true rfl, Nat.le_of_ble_eq_true rfl⟩) ⟨fun a9 U g mk q => by obtain ⟨q0, q1, qP, qK, qD, qN⟩ := q; exact ⟨q0, q1, qP, va_K.moved (u := U) (U := U.calling g mk a9) (Vm.Alike.refl U.vm) qK, qD, pw_N.same (u := U) (U := U.calling g mk a9) rfl qN⟩, va_recv hK hP (ci := 0) (q0 := 1) rfl rfl, fun U hU hW => ⟨rfl, by rw [hU], by rw [hU]; exact hP, va_K.moved hW.alike hK, hD.weaken (fun _ _ _ _ => trivial), pw_N.warm hW hN⟩⟩ rfl rfl hl.1 rfl (lv_room (Nat.le_of_ble_eq_true rfl)) dX8_layOutDraft_55 ⟨Nat.le_of_ble_eq_true rfl, Nat.le_of_ble_eq_true rfl⟩) hS (fun q _ h => hFc q h) hFc (fun r24 u t H1 locs ht hvm hw hB hz1 hk1 hS => ?_)
              replace hP := hB.1
              rw [ht] at hP
              replace hD : va_D A (xW h a e cI cJ cO cE L5 I21 M J22 n cap fE sd si sa dl) := hB.2.weaken (fun _ q _ h9 => hFc q.1 h9)
              clear hB
              generalize H1 = H at hP hS ⊢
              replace hP : va_P (dC, dI) vwCl (xW h a e cI cJ cO cE L5 I21 M J22 n cap fE sd si sa dl) H := hP
              obtain rfl : r24 = nI n := hw
              refine lv_icmp_ge (tgt := 170) hx hb dX8_layOutDraft_58 (by decide) (fun c25 => ?_) (fun c25 => ?_)
              · replace c25 : n ≤ i17 := (nI_leI (a := n) (b := i17) (by omega) (by omega)).mp c25
                refine lv_iinc (v := (nI (i7 + 1))) (lv' := [(7, .int (nI (i7 + 1))), (8, .int (nI i17)), (5, .long y23), (3, .long x2), (1, .long x1), (0, .ref h)]) hx hb dX8_layOutDraft_170 hl (k := 1) rfl (nI_add i7 1) (by decide) rfl (fun ls hl => ?_)
                refine lv_goto (tgt := 32) hx hb dX8_layOutDraft_173 (by decide) ?_
                exact ih9 (i7 + 1) y23 I21 J22 _ _ _ (by omega) (by omega) (hX.mono (by omega)) hUI hUJ  hP hD hS (lv_sub hl [0, 2, 3, 4, 5] rfl)
              · replace c25 : ¬ (n ≤ i17) := fun q9 => c25 ((nI_leI (a := n) (b := i17) (by omega) (by omega)).mpr q9)
                refine lv_lload hx hb dX8_layOutDraft_61 (lv_at hl 2 rfl) ?_
                refine lv_iload hx hb dX8_layOutDraft_63 (lv_at hl 0 rfl) ?_
                have hFc := mw_free hD hS hA
                refine va_calli (va_runS (As := [.long y23, .int (nI i17)]) (rest := []) ⟨hx, hb, hml, hown, hts⟩ (c_x_holds l dC dI h a e cI cJ cO cE L5 I21 M J22 n cap fE sd si sa dl (b) y23 (nI i17) H.size hX (by omega) ) (va_cwS 2 hts wc_x_layOutDraft_x_holds_114 rfl rfl rfl (by decide +kernel) ⟨Nat.le_of_ble_eq_true rfl, Nat.le_of_ble_eq_true rfl⟩) ⟨fun a9 U g mk q => by obtain ⟨q0, q1, qP, qK, qD, qN⟩ := q; exact ⟨q0, q1, qP, va_K.moved (u := U) (U := U.calling g mk a9) (Vm.Alike.refl U.vm) qK, qD, pw_N.same (u := U) (U := U.calling g mk a9) rfl qN⟩, fun U hU hW => ⟨rfl, by rw [hU], by rw [hU]; exact hP, va_K.moved hW.alike hK, hD.weaken (fun _ _ _ _ => trivial), pw_N.warm hW hN⟩⟩ rfl rfl hl.1 rfl (lv_room (Nat.le_of_ble_eq_true rfl)) dX8_layOutDraft_65 ⟨Nat.le_of_ble_eq_true rfl, Nat.le_of_ble_eq_true rfl⟩) hS (fun q _ h => hFc q h) hFc (fun r26 u t H1 locs ht hvm hw hB hz1 hk1 hS => ?_)
                replace hP := hB.1
                rw [ht] at hP
                replace hD : va_D A (xW h a e cI cJ cO cE L5 I21 M J22 n cap fE sd si sa dl) := hB.2.weaken (fun _ q _ h9 => hFc q.1 h9)
                clear hB
                generalize H1 = H at hP hS ⊢
                replace hP : va_P (dC, dI) vwCl (xW h a e cI cJ cO cE L5 I21 M J22 n cap fE sd si sa dl) H := hP
                have br26 := hw
                refine lv_if_eq (tgt := 164) hx hb dX8_layOutDraft_68 (by decide) (fun c27 => ?_) (fun c27 => ?_)
                · refine lv_iinc (v := (nI (i17 + 1))) (lv' := [(8, .int (nI (i17 + 1))), (7, .int (nI i7)), (5, .long y23), (3, .long x2), (1, .long x1), (0, .ref h)]) hx hb dX8_layOutDraft_164 hl (k := 0) rfl (nI_add i17 1) (by decide) rfl (fun ls hl => ?_)
                  refine lv_goto (tgt := 49) hx hb dX8_layOutDraft_167 (by decide) ?_
                  exact ih19 (i17 + 1) y23 I21 J22 _ _ _ (by omega) (by omega) (hX.mono (by omega)) hUI hUJ  hP hD hS (lv_sub hl [0, 1, 2, 3, 4, 5] rfl)
                · refine lv_aload_n hx hb dX8_layOutDraft_71 rfl (lv_at hl 5 rfl) ?_
                  refine va_get (D := (dC, dI)) (ci := 9) (v := .ref (a 1)) (C := RX8) (T := TX8) (N := 14) hx hb hts in_x_layOutDraft_X8 hown hK hP 0 rfl rfl 1 (by decide) (hts (.fieldLink RX8 19 "ServiceTree" "relations" "LServiceTree$Relations;") (by decide +kernel)) (fun _ h9 => h9) rfl dX8_layOutDraft_72 ?_
                  refine lv_iload hx hb dX8_layOutDraft_75 (lv_at hl 0 rfl) ?_
                  refine lv_lload_n hx hb dX8_layOutDraft_77 rfl (lv_at hl 4 rfl) ?_
                  refine lv_lload_n hx hb dX8_layOutDraft_78 rfl (lv_at hl 3 rfl) ?_
                  have hFc := mw_free hD hS hA
                  refine va_calll (va_runV (As := [.int (nI i17), .long x1, .long x2]) (rest := []) ⟨hx, hb, hml, hown, hts⟩ (c_x_rawaited l dC dI h a e cI cJ cO cE L5 I21 M J22 n cap fE sd si sa dl (b) i17 x1 x2 H.size hX (by omega) (by omega)) (cwV 3 hts wc_x_layOutDraft_x_rawaited_267 rfl rfl rfl (by decide +kernel) ⟨Nat.le_of_ble_eq_true rfl, Nat.le_of_ble_eq_true rfl⟩) ⟨fun a9 U g mk q => by obtain ⟨q0, q1, qP, qK, qD, qN⟩ := q; exact ⟨q0, q1, qP, va_K.moved (u := U) (U := U.calling g mk a9) (Vm.Alike.refl U.vm) qK, qD, pw_N.same (u := U) (U := U.calling g mk a9) rfl qN⟩, va_recv hK hP (ci := 6) (q0 := 2) rfl rfl, fun U hU hW => ⟨rfl, by rw [hU], by rw [hU]; exact hP, va_K.moved hW.alike hK, hD.weaken (fun _ _ _ _ => trivial), pw_N.warm hW hN⟩⟩ rfl rfl hl.1 rfl (lv_room (Nat.le_of_ble_eq_true rfl)) dX8_layOutDraft_79 ⟨Nat.le_of_ble_eq_true rfl, Nat.le_of_ble_eq_true rfl⟩) hS (fun q _ h => hFc q h) hFc (fun r28 u t H1 locs ht hvm hw hB hz1 hk1 hS => ?_)
                  replace hP := hB.1
                  rw [ht] at hP
                  replace hD : va_D A (xW h a e cI cJ cO cE L5 I21 M J22 n cap fE sd si sa dl) := hB.2.weaken (fun _ q _ h9 => hFc q.1 h9)
                  clear hB
                  generalize H1 = H at hP hS ⊢
                  replace hP : va_P (dC, dI) vwCl (xW h a e cI cJ cO cE L5 I21 M J22 n cap fE sd si sa dl) H := hP
                  refine lv_lload hx hb dX8_layOutDraft_82 (lv_at hl 2 rfl) ?_
                  refine lv_land hx hb dX8_layOutDraft_84 ?_
                  refine lv_topl (fun x29 ex29 => ?_)
                  refine lv_lconst (v := 0) hx hb dX8_layOutDraft_85 (by decide) ?_
                  refine W.lcmp hx hb dX8_layOutDraft_86 ?_
                  refine lv_topi (fun x30 ex30 => ?_)
                  refine lv_if_ne (tgt := 164) hx hb dX8_layOutDraft_87 (by decide) (fun c31 => ?_) (fun c31 => ?_)
                  · refine lv_iinc (v := (nI (i17 + 1))) (lv' := [(8, .int (nI (i17 + 1))), (7, .int (nI i7)), (5, .long y23), (3, .long x2), (1, .long x1), (0, .ref h)]) hx hb dX8_layOutDraft_164 hl (k := 0) rfl (nI_add i17 1) (by decide) rfl (fun ls hl => ?_)
                    refine lv_goto (tgt := 49) hx hb dX8_layOutDraft_167 (by decide) ?_
                    exact ih19 (i17 + 1) y23 I21 J22 _ _ _ (by omega) (by omega) (hX.mono (by omega)) hUI hUJ  hP hD hS (lv_sub hl [0, 1, 2, 3, 4, 5] rfl)
                  · refine lv_aload_n hx hb dX8_layOutDraft_90 rfl (lv_at hl 5 rfl) ?_
                    refine va_get (D := (dC, dI)) (ci := 9) (v := .ref (a 4)) (C := RX8) (T := TX8) (N := 14) hx hb hts in_x_layOutDraft_X8 hown hK hP 0 rfl rfl 4 (by decide) (hts (.fieldLink RX8 42 "ServiceTree" "latestPlan" "LServiceTree$Plan;") (by decide +kernel)) (fun _ h9 => h9) rfl dX8_layOutDraft_91 ?_
                    refine lv_aload_n hx hb dX8_layOutDraft_94 rfl (lv_at hl 5 rfl) ?_
                    refine va_get (D := (dC, dI)) (ci := 9) (v := .ref (a 1)) (C := RX8) (T := TX8) (N := 14) hx hb hts in_x_layOutDraft_X8 hown hK hP 0 rfl rfl 1 (by decide) (hts (.fieldLink RX8 19 "ServiceTree" "relations" "LServiceTree$Relations;") (by decide +kernel)) (fun _ h9 => h9) rfl dX8_layOutDraft_95 ?_
                    refine lv_iload hx hb dX8_layOutDraft_98 (lv_at hl 0 rfl) ?_
                    refine lv_lload_n hx hb dX8_layOutDraft_100 rfl (lv_at hl 4 rfl) ?_
                    refine lv_lload_n hx hb dX8_layOutDraft_101 rfl (lv_at hl 3 rfl) ?_
                    have hFc := mw_free hD hS hA
                    refine va_calll (va_runV (As := [.int (nI i17), .long x1, .long x2]) (rest := [.ref (a 4)]) ⟨hx, hb, hml, hown, hts⟩ (c_x_rawaited l dC dI h a e cI cJ cO cE L5 I21 M J22 n cap fE sd si sa dl (b) i17 x1 x2 H.size hX (by omega) (by omega)) (cwV 3 hts wc_x_layOutDraft_x_rawaited_267 rfl rfl rfl (by decide +kernel) ⟨Nat.le_of_ble_eq_true rfl, Nat.le_of_ble_eq_true rfl⟩) ⟨fun a9 U g mk q => by obtain ⟨q0, q1, qP, qK, qD, qN⟩ := q; exact ⟨q0, q1, qP, va_K.moved (u := U) (U := U.calling g mk a9) (Vm.Alike.refl U.vm) qK, qD, pw_N.same (u := U) (U := U.calling g mk a9) rfl qN⟩, va_recv hK hP (ci := 6) (q0 := 2) rfl rfl, fun U hU hW => ⟨rfl, by rw [hU], by rw [hU]; exact hP, va_K.moved hW.alike hK, hD.weaken (fun _ _ _ _ => trivial), pw_N.warm hW hN⟩⟩ rfl rfl hl.1 rfl (lv_room (Nat.le_of_ble_eq_true rfl)) dX8_layOutDraft_102 ⟨Nat.le_of_ble_eq_true rfl, Nat.le_of_ble_eq_true rfl⟩) hS (fun q _ h => hFc q h) hFc (fun r32 u t H1 locs ht hvm hw hB hz1 hk1 hS => ?_)
                    replace hP := hB.1
                    rw [ht] at hP
                    replace hD : va_D A (xW h a e cI cJ cO cE L5 I21 M J22 n cap fE sd si sa dl) := hB.2.weaken (fun _ q _ h9 => hFc q.1 h9)
                    clear hB
                    generalize H1 = H at hP hS ⊢
                    replace hP : va_P (dC, dI) vwCl (xW h a e cI cJ cO cE L5 I21 M J22 n cap fE sd si sa dl) H := hP
                    have hFc := mw_free hD hS hA
                    refine va_calli (va_runV (As := [.long r32]) (rest := []) ⟨hx, hb, hml, hown, hts⟩ (c_x_endOf l dC dI h a e cI cJ cO cE L5 I21 M J22 n cap fE sd si sa dl (b) r32 H.size hX (by omega) ) (cwV 1 hts wc_x_layOutDraft_x_endOf_270 rfl rfl rfl (by decide +kernel) ⟨Nat.le_of_ble_eq_true rfl, Nat.le_of_ble_eq_true rfl⟩) ⟨fun a9 U g mk q => by obtain ⟨q0, q1, qP, qK, qD, qN⟩ := q; exact ⟨q0, q1, qP, va_K.moved (u := U) (U := U.calling g mk a9) (Vm.Alike.refl U.vm) qK, qD, pw_N.same (u := U) (U := U.calling g mk a9) rfl qN⟩, va_recv hK hP (ci := 5) (q0 := 15) rfl rfl, fun U hU hW => ⟨rfl, by rw [hU], by rw [hU]; exact hP, va_K.moved hW.alike hK, hD.weaken (fun _ _ _ _ => trivial), pw_N.warm hW hN⟩⟩ rfl rfl hl.1 rfl (lv_room (Nat.le_of_ble_eq_true rfl)) dX8_layOutDraft_105 ⟨Nat.le_of_ble_eq_true rfl, Nat.le_of_ble_eq_true rfl⟩) hS (fun q _ h => hFc q h) hFc (fun r33 u t H1 locs ht hvm hw hB hz1 hk1 hS => ?_)
                    replace hP := hB.1
                    rw [ht] at hP
                    replace hD : va_D A (xW h a e cI cJ cO cE L5 I21 M J22 n cap fE sd si sa dl) := hB.2.weaken (fun _ q _ h9 => hFc q.1 h9)
                    clear hB
                    generalize H1 = H at hP hS ⊢
                    replace hP : va_P (dC, dI) vwCl (xW h a e cI cJ cO cE L5 I21 M J22 n cap fE sd si sa dl) H := hP
                    refine lv_istore (lv' := [(9, .int r33), (8, .int (nI i17)), (7, .int (nI i7)), (5, .long y23), (3, .long x2), (1, .long x1), (0, .ref h)]) hx hb dX8_layOutDraft_108 hl (by decide) rfl (fun ls hl => ?_)
                    refine lv_aload_n hx hb dX8_layOutDraft_110 rfl (lv_at hl 6 rfl) ?_
                    refine va_get (D := (dC, dI)) (ci := 9) (v := .ref (a 4)) (C := RX8) (T := TX8) (N := 14) hx hb hts in_x_layOutDraft_X8 hown hK hP 0 rfl rfl 4 (by decide) (hts (.fieldLink RX8 42 "ServiceTree" "latestPlan" "LServiceTree$Plan;") (by decide +kernel)) (fun _ h9 => h9) rfl dX8_layOutDraft_111 ?_
                    refine lv_iload hx hb dX8_layOutDraft_114 (lv_at hl 1 rfl) ?_
                    refine lv_iload hx hb dX8_layOutDraft_116 (lv_at hl 0 rfl) ?_
                    refine lv_iload hx hb dX8_layOutDraft_118 (lv_at hl 0 rfl) ?_
                    refine lv_lload_n hx hb dX8_layOutDraft_120 rfl (lv_at hl 5 rfl) ?_
                    refine lv_iload hx hb dX8_layOutDraft_121 (lv_at hl 1 rfl) ?_
                    have hFc := mw_free hD hS hA
                    refine va_calli (va_runS (As := [.long x1, .int (nI i17)]) (rest := [.int r33, .int r33, .int (nI i17), .ref (a 4)]) ⟨hx, hb, hml, hown, hts⟩ (c_x_holds l dC dI h a e cI cJ cO cE L5 I21 M J22 n cap fE sd si sa dl (b) x1 (nI i17) H.size hX (by omega) ) (va_cwS 2 hts wc_x_layOutDraft_x_holds_114 rfl rfl rfl (by decide +kernel) ⟨Nat.le_of_ble_eq_true rfl, Nat.le_of_ble_eq_true rfl⟩) ⟨fun a9 U g mk q => by obtain ⟨q0, q1, qP, qK, qD, qN⟩ := q; exact ⟨q0, q1, qP, va_K.moved (u := U) (U := U.calling g mk a9) (Vm.Alike.refl U.vm) qK, qD, pw_N.same (u := U) (U := U.calling g mk a9) rfl qN⟩, fun U hU hW => ⟨rfl, by rw [hU], by rw [hU]; exact hP, va_K.moved hW.alike hK, hD.weaken (fun _ _ _ _ => trivial), pw_N.warm hW hN⟩⟩ rfl rfl hl.1 rfl (lv_room (Nat.le_of_ble_eq_true rfl)) dX8_layOutDraft_123 ⟨Nat.le_of_ble_eq_true rfl, Nat.le_of_ble_eq_true rfl⟩) hS (fun q _ h => hFc q h) hFc (fun r34 u t H1 locs ht hvm hw hB hz1 hk1 hS => ?_)
                    replace hP := hB.1
                    rw [ht] at hP
                    replace hD : va_D A (xW h a e cI cJ cO cE L5 I21 M J22 n cap fE sd si sa dl) := hB.2.weaken (fun _ q _ h9 => hFc q.1 h9)
                    clear hB
                    generalize H1 = H at hP hS ⊢
                    replace hP : va_P (dC, dI) vwCl (xW h a e cI cJ cO cE L5 I21 M J22 n cap fE sd si sa dl) H := hP
                    have br34 := hw
                    refine lv_if_eq (tgt := 138) hx hb dX8_layOutDraft_126 (by decide) (fun c35 => ?_) (fun c35 => ?_)
                    · refine lv_aload_n hx hb dX8_layOutDraft_138 rfl (lv_at hl 6 rfl) ?_
                      refine lv_iload hx hb dX8_layOutDraft_139 (lv_at hl 1 rfl) ?_
                      refine lv_iload hx hb dX8_layOutDraft_141 (lv_at hl 0 rfl) ?_
                      have hFc := mw_free hD hS hA
                      refine va_calli (va_runV (As := [.int (nI i17), .int r33]) (rest := [.int r33, .int r33, .int (nI i17), .ref (a 4)]) ⟨hx, hb, hml, hown, hts⟩ (c_x_ticksToStop l dC dI h a e cI cJ cO cE L5 I21 M J22 n cap fE sd si sa dl (b) i17 r33 H.size hX (by omega) (by omega)) (cwV 2 hts wc_x_layOutDraft_x_ticksToStop_276 rfl rfl rfl (by decide +kernel) ⟨Nat.le_of_ble_eq_true rfl, Nat.le_of_ble_eq_true rfl⟩) ⟨fun a9 U g mk q => by obtain ⟨q0, q1, qP, qK, qD, qN⟩ := q; exact ⟨q0, q1, qP, va_K.moved (u := U) (U := U.calling g mk a9) (Vm.Alike.refl U.vm) qK, qD, pw_N.same (u := U) (U := U.calling g mk a9) rfl qN⟩, va_recv hK hP (ci := 9) (q0 := 0) rfl rfl, fun U hU hW => ⟨rfl, by rw [hU], by rw [hU]; exact hP, va_K.moved hW.alike hK, hD.weaken (fun _ _ _ _ => trivial), pw_N.warm hW hN⟩⟩ rfl rfl hl.1 rfl (lv_room (Nat.le_of_ble_eq_true rfl)) dX8_layOutDraft_143 ⟨Nat.le_of_ble_eq_true rfl, Nat.le_of_ble_eq_true rfl⟩) hS (fun q _ h => hFc q h) hFc (fun r36 u t H1 locs ht hvm hw hB hz1 hk1 hS => ?_)
                      replace hP := hB.1
                      rw [ht] at hP
                      replace hD : va_D A (xW h a e cI cJ cO cE L5 I21 M J22 n cap fE sd si sa dl) := hB.2.weaken (fun _ q _ h9 => hFc q.1 h9)
                      clear hB
                      generalize H1 = H at hP hS ⊢
                      replace hP : va_P (dC, dI) vwCl (xW h a e cI cJ cO cE L5 I21 M J22 n cap fE sd si sa dl) H := hP
                      refine lv_iadd hx hb dX8_layOutDraft_146 ?_
                      refine lv_topi (fun x37 ex37 => ?_)
                      have hFc := mw_free hD hS hA
                      refine va_callv (va_runV (As := [.int (nI i17), .int r33, .int x37]) (rest := []) ⟨hx, hb, hml, hown, hts⟩ (c_x_padd l dC dI h a e cI cJ cO cE L5 I21 M J22 n cap fE sd si sa dl (b) i17 r33 x37 H.size hX (by omega) (by omega)) (cwV 3 hts wc_x_layOutDraft_x_padd_279 rfl rfl rfl (by decide +kernel) ⟨Nat.le_of_ble_eq_true rfl, Nat.le_of_ble_eq_true rfl⟩) ⟨fun a9 U g mk q => by obtain ⟨q0, q1, qP, qK, qD, qN⟩ := q; exact ⟨q0, q1, qP, va_K.moved (u := U) (U := U.calling g mk a9) (Vm.Alike.refl U.vm) qK, qD, pw_N.same (u := U) (U := U.calling g mk a9) rfl qN⟩, va_recv hK hP (ci := 5) (q0 := 15) rfl rfl, fun U hU hW => ⟨rfl, by rw [hU], by rw [hU]; exact hP, va_K.moved hW.alike hK, hD.weaken (fun _ _ _ _ => trivial), pw_N.warm hW hN⟩⟩ rfl rfl hl.1 rfl (lv_room (Nat.le_of_ble_eq_true rfl)) dX8_layOutDraft_147 ⟨Nat.le_of_ble_eq_true rfl, Nat.le_of_ble_eq_true rfl⟩) hS (fun q _ h => hFc q h) hFc (fun u t H1 locs ht hvm hw hB hz1 hk1 hS => ?_)
                      obtain ⟨I39, J40⟩ := u
                      replace hP := hB.1
                      rw [ht] at hP
                      replace hD : va_D A (xW h a e cI cJ cO cE L5 I39 M J40 n cap fE sd si sa dl) := hB.2.weaken (fun _ q _ h9 => hFc q.1 h9)
                      clear hB
                      generalize H1 = H at hP hS ⊢
                      replace hP : va_P (dC, dI) vwCl (xW h a e cI cJ cO cE L5 I39 M J40 n cap fE sd si sa dl) H := hP
                      obtain ⟨hwX, whUI, whUJ, hw⟩ := hw
                      replace hX : InvX n cap fE sd dl (b) I39 J40 si := hwX
                      replace hUI : ∀ j9 : Nat, j9 ∉ ([9, 10, 11] : List Nat) → I39 j9 = I j9 := mw_tr (by decide) whUI hUI
                      replace hUJ : ∀ j9 : Nat, j9 ∉ ([0, 1, 2] : List Nat) → J40 j9 = J j9 := mw_tr (by decide) whUJ hUJ
                      refine lv_lload hx hb dX8_layOutDraft_150 (lv_at hl 3 rfl) ?_
                      refine lv_iload hx hb dX8_layOutDraft_152 (lv_at hl 1 rfl) ?_
                      have hFc := mw_free hD hS hA
                      refine va_calll (va_runS (As := [.int (nI i17)]) (rest := [.long y23]) ⟨hx, hb, hml, hown, hts⟩ (c_x_only l dC dI h a e cI cJ cO cE L5 I39 M J40 n cap fE sd si sa dl (b) (nI i17) H.size hX (by omega) ) (va_cwS 1 hts wc_x_layOutDraft_x_only_78 rfl rfl rfl (by decide +kernel) ⟨Nat.le_of_ble_eq_true rfl, Nat.le_of_ble_eq_true rfl⟩) ⟨fun a9 U g mk q => by obtain ⟨q0, q1, qP, qK, qD, qN⟩ := q; exact ⟨q0, q1, qP, va_K.moved (u := U) (U := U.calling g mk a9) (Vm.Alike.refl U.vm) qK, qD, pw_N.same (u := U) (U := U.calling g mk a9) rfl qN⟩, fun U hU hW => ⟨rfl, by rw [hU], by rw [hU]; exact hP, va_K.moved hW.alike hK, hD.weaken (fun _ _ _ _ => trivial), pw_N.warm hW hN⟩⟩ rfl rfl hl.1 rfl (lv_room (Nat.le_of_ble_eq_true rfl)) dX8_layOutDraft_154 ⟨Nat.le_of_ble_eq_true rfl, Nat.le_of_ble_eq_true rfl⟩) hS (fun q _ h => hFc q h) hFc (fun r41 u t H1 locs ht hvm hw hB hz1 hk1 hS => ?_)
                      replace hP := hB.1
                      rw [ht] at hP
                      replace hD : va_D A (xW h a e cI cJ cO cE L5 I39 M J40 n cap fE sd si sa dl) := hB.2.weaken (fun _ q _ h9 => hFc q.1 h9)
                      clear hB
                      generalize H1 = H at hP hS ⊢
                      replace hP : va_P (dC, dI) vwCl (xW h a e cI cJ cO cE L5 I39 M J40 n cap fE sd si sa dl) H := hP
                      refine lv_ldc2 (v := (-1)) hx hb hown (hts (.constantLong RX8 238 (-1)) (by decide +kernel)) dX8_layOutDraft_157 ?_
                      refine lv_lxor hx hb dX8_layOutDraft_160 ?_
                      refine lv_topl (fun x42 ex42 => ?_)
                      refine lv_land hx hb dX8_layOutDraft_161 ?_
                      refine lv_topl (fun x43 ex43 => ?_)
                      refine lv_lstore (lv' := [(5, .long x43), (9, .int r33), (8, .int (nI i17)), (7, .int (nI i7)), (3, .long x2), (1, .long x1), (0, .ref h)]) hx hb dX8_layOutDraft_162 hl (by decide) rfl (fun ls hl => ?_)
                      refine lv_iinc (v := (nI (i17 + 1))) (lv' := [(8, .int (nI (i17 + 1))), (5, .long x43), (9, .int r33), (7, .int (nI i7)), (3, .long x2), (1, .long x1), (0, .ref h)]) hx hb dX8_layOutDraft_164 hl (k := 2) rfl (nI_add i17 1) (by decide) rfl (fun ls hl => ?_)
                      refine lv_goto (tgt := 49) hx hb dX8_layOutDraft_167 (by decide) ?_
                      exact ih19 (i17 + 1) x43 I39 J40 _ _ _ (by omega) (by omega) (hX.mono (by omega)) hUI hUJ  hP hD hS (lv_sub hl [0, 3, 1, 4, 5, 6] rfl)
                    · refine lv_aload_n hx hb dX8_layOutDraft_129 rfl (lv_at hl 6 rfl) ?_
                      refine lv_iload hx hb dX8_layOutDraft_130 (lv_at hl 1 rfl) ?_
                      have hFc := mw_free hD hS hA
                      refine va_calli (va_runV (As := [.int (nI i17)]) (rest := [.int r33, .int r33, .int (nI i17), .ref (a 4)]) ⟨hx, hb, hml, hown, hts⟩ (c_x_ticksToStart l dC dI h a e cI cJ cO cE L5 I21 M J22 n cap fE sd si sa dl (b) i17 H.size hX (by omega) (by omega)) (cwV 1 hts wc_x_layOutDraft_x_ticksToStart_273 rfl rfl rfl (by decide +kernel) ⟨Nat.le_of_ble_eq_true rfl, Nat.le_of_ble_eq_true rfl⟩) ⟨fun a9 U g mk q => by obtain ⟨q0, q1, qP, qK, qD, qN⟩ := q; exact ⟨q0, q1, qP, va_K.moved (u := U) (U := U.calling g mk a9) (Vm.Alike.refl U.vm) qK, qD, pw_N.same (u := U) (U := U.calling g mk a9) rfl qN⟩, va_recv hK hP (ci := 9) (q0 := 0) rfl rfl, fun U hU hW => ⟨rfl, by rw [hU], by rw [hU]; exact hP, va_K.moved hW.alike hK, hD.weaken (fun _ _ _ _ => trivial), pw_N.warm hW hN⟩⟩ rfl rfl hl.1 rfl (lv_room (Nat.le_of_ble_eq_true rfl)) dX8_layOutDraft_132 ⟨Nat.le_of_ble_eq_true rfl, Nat.le_of_ble_eq_true rfl⟩) hS (fun q _ h => hFc q h) hFc (fun r44 u t H1 locs ht hvm hw hB hz1 hk1 hS => ?_)
                      replace hP := hB.1
                      rw [ht] at hP
                      replace hD : va_D A (xW h a e cI cJ cO cE L5 I21 M J22 n cap fE sd si sa dl) := hB.2.weaken (fun _ q _ h9 => hFc q.1 h9)
                      clear hB
                      generalize H1 = H at hP hS ⊢
                      replace hP : va_P (dC, dI) vwCl (xW h a e cI cJ cO cE L5 I21 M J22 n cap fE sd si sa dl) H := hP
                      refine lv_goto (tgt := 146) hx hb dX8_layOutDraft_135 (by decide) ?_
                      refine lv_iadd hx hb dX8_layOutDraft_146 ?_
                      refine lv_topi (fun x45 ex45 => ?_)
                      have hFc := mw_free hD hS hA
                      refine va_callv (va_runV (As := [.int (nI i17), .int r33, .int x45]) (rest := []) ⟨hx, hb, hml, hown, hts⟩ (c_x_padd l dC dI h a e cI cJ cO cE L5 I21 M J22 n cap fE sd si sa dl (b) i17 r33 x45 H.size hX (by omega) (by omega)) (cwV 3 hts wc_x_layOutDraft_x_padd_279 rfl rfl rfl (by decide +kernel) ⟨Nat.le_of_ble_eq_true rfl, Nat.le_of_ble_eq_true rfl⟩) ⟨fun a9 U g mk q => by obtain ⟨q0, q1, qP, qK, qD, qN⟩ := q; exact ⟨q0, q1, qP, va_K.moved (u := U) (U := U.calling g mk a9) (Vm.Alike.refl U.vm) qK, qD, pw_N.same (u := U) (U := U.calling g mk a9) rfl qN⟩, va_recv hK hP (ci := 5) (q0 := 15) rfl rfl, fun U hU hW => ⟨rfl, by rw [hU], by rw [hU]; exact hP, va_K.moved hW.alike hK, hD.weaken (fun _ _ _ _ => trivial), pw_N.warm hW hN⟩⟩ rfl rfl hl.1 rfl (lv_room (Nat.le_of_ble_eq_true rfl)) dX8_layOutDraft_147 ⟨Nat.le_of_ble_eq_true rfl, Nat.le_of_ble_eq_true rfl⟩) hS (fun q _ h => hFc q h) hFc (fun u t H1 locs ht hvm hw hB hz1 hk1 hS => ?_)
                      obtain ⟨I47, J48⟩ := u
                      replace hP := hB.1
                      rw [ht] at hP
                      replace hD : va_D A (xW h a e cI cJ cO cE L5 I47 M J48 n cap fE sd si sa dl) := hB.2.weaken (fun _ q _ h9 => hFc q.1 h9)
                      clear hB
                      generalize H1 = H at hP hS ⊢
                      replace hP : va_P (dC, dI) vwCl (xW h a e cI cJ cO cE L5 I47 M J48 n cap fE sd si sa dl) H := hP
                      obtain ⟨hwX, whUI, whUJ, hw⟩ := hw
                      replace hX : InvX n cap fE sd dl (b) I47 J48 si := hwX
                      replace hUI : ∀ j9 : Nat, j9 ∉ ([9, 10, 11] : List Nat) → I47 j9 = I j9 := mw_tr (by decide) whUI hUI
                      replace hUJ : ∀ j9 : Nat, j9 ∉ ([0, 1, 2] : List Nat) → J48 j9 = J j9 := mw_tr (by decide) whUJ hUJ
                      refine lv_lload hx hb dX8_layOutDraft_150 (lv_at hl 3 rfl) ?_
                      refine lv_iload hx hb dX8_layOutDraft_152 (lv_at hl 1 rfl) ?_
                      have hFc := mw_free hD hS hA
                      refine va_calll (va_runS (As := [.int (nI i17)]) (rest := [.long y23]) ⟨hx, hb, hml, hown, hts⟩ (c_x_only l dC dI h a e cI cJ cO cE L5 I47 M J48 n cap fE sd si sa dl (b) (nI i17) H.size hX (by omega) ) (va_cwS 1 hts wc_x_layOutDraft_x_only_78 rfl rfl rfl (by decide +kernel) ⟨Nat.le_of_ble_eq_true rfl, Nat.le_of_ble_eq_true rfl⟩) ⟨fun a9 U g mk q => by obtain ⟨q0, q1, qP, qK, qD, qN⟩ := q; exact ⟨q0, q1, qP, va_K.moved (u := U) (U := U.calling g mk a9) (Vm.Alike.refl U.vm) qK, qD, pw_N.same (u := U) (U := U.calling g mk a9) rfl qN⟩, fun U hU hW => ⟨rfl, by rw [hU], by rw [hU]; exact hP, va_K.moved hW.alike hK, hD.weaken (fun _ _ _ _ => trivial), pw_N.warm hW hN⟩⟩ rfl rfl hl.1 rfl (lv_room (Nat.le_of_ble_eq_true rfl)) dX8_layOutDraft_154 ⟨Nat.le_of_ble_eq_true rfl, Nat.le_of_ble_eq_true rfl⟩) hS (fun q _ h => hFc q h) hFc (fun r49 u t H1 locs ht hvm hw hB hz1 hk1 hS => ?_)
                      replace hP := hB.1
                      rw [ht] at hP
                      replace hD : va_D A (xW h a e cI cJ cO cE L5 I47 M J48 n cap fE sd si sa dl) := hB.2.weaken (fun _ q _ h9 => hFc q.1 h9)
                      clear hB
                      generalize H1 = H at hP hS ⊢
                      replace hP : va_P (dC, dI) vwCl (xW h a e cI cJ cO cE L5 I47 M J48 n cap fE sd si sa dl) H := hP
                      refine lv_ldc2 (v := (-1)) hx hb hown (hts (.constantLong RX8 238 (-1)) (by decide +kernel)) dX8_layOutDraft_157 ?_
                      refine lv_lxor hx hb dX8_layOutDraft_160 ?_
                      refine lv_topl (fun x50 ex50 => ?_)
                      refine lv_land hx hb dX8_layOutDraft_161 ?_
                      refine lv_topl (fun x51 ex51 => ?_)
                      refine lv_lstore (lv' := [(5, .long x51), (9, .int r33), (8, .int (nI i17)), (7, .int (nI i7)), (3, .long x2), (1, .long x1), (0, .ref h)]) hx hb dX8_layOutDraft_162 hl (by decide) rfl (fun ls hl => ?_)
                      refine lv_iinc (v := (nI (i17 + 1))) (lv' := [(8, .int (nI (i17 + 1))), (5, .long x51), (9, .int r33), (7, .int (nI i7)), (3, .long x2), (1, .long x1), (0, .ref h)]) hx hb dX8_layOutDraft_164 hl (k := 2) rfl (nI_add i17 1) (by decide) rfl (fun ls hl => ?_)
                      refine lv_goto (tgt := 49) hx hb dX8_layOutDraft_167 (by decide) ?_
                      exact ih19 (i17 + 1) x51 I47 J48 _ _ _ (by omega) (by omega) (hX.mono (by omega)) hUI hUJ  hP hD hS (lv_sub hl [0, 3, 1, 4, 5, 6] rfl)
          exact lp20 (n + 1) 0 y13 I11 J12 _ _ _ (by omega) (by omega) (hX.mono (by omega)) hUI hUJ  hP hD hS hl
  exact lp10 (40 + 1) 0 x3 I6 J _ _ _ (by omega) (by omega) (hX.mono (by omega)) hUI hUJ  hP hD hS hl
def wq_x_canWake : List Cond := [.code yX8_canWake cX8_canWake 2 (some .boolean), .fieldLink RX8 19 "ServiceTree" "relations" "LServiceTree$Relations;", .methodLink RX8 231 yX8_hasItsNeeds, .instanceMethod yX8_hasItsNeeds, .selects RX8 yX8_hasItsNeeds yX8_hasItsNeeds, .initialized RX8, .methodLink RX8 234 yX5_from, .instanceMethod yX5_from, .selects RX5 yX5_from yX5_from, .initialized RX5, .methodLink RX8 224 yX8_startingUpOrStopping, .instanceMethod yX8_startingUpOrStopping, .selects RX8 yX8_startingUpOrStopping yX8_startingUpOrStopping] ++ (wsX80 ++ (wq_x_hasItsNeeds ++ (wq_x_from ++ (wq_x_sus))))
theorem in_x_canWake_X8 : ∀ w ∈ wsX80, w ∈ wq_x_canWake := fun _ h => List.mem_append_right _ (List.mem_append_left _ (h))
set_option maxRecDepth 20000 in
theorem wi_x_canWake : ∀ w ∈ wq_x_canWake, w ∈ lw_tbl := List.forall_mem_append.mpr ⟨(by decide +kernel), List.forall_mem_append.mpr ⟨inKX8, List.forall_mem_append.mpr ⟨wi_x_hasItsNeeds, List.forall_mem_append.mpr ⟨wi_x_from, wi_x_sus⟩⟩⟩⟩
set_option maxRecDepth 20000 in
theorem wg_x_canWake : GoodIn wq_x_canWake wq_x_canWake := goodIn_sub (fun _ h => h) (by decide +kernel)
set_option maxRecDepth 20000 in
theorem wc_x_canWake_x_hasItsNeeds_231 : GoodIn wq_x_canWake (wsV RX8 231 RX8 yX8_hasItsNeeds wq_x_hasItsNeeds) := goodIn_app (goodIn_of _ (by decide +kernel)) (fun w h => ⟨List.mem_append_right _ (List.mem_append_right _ (List.mem_append_left _ (h))), (wg_x_hasItsNeeds w h).2⟩)
set_option maxRecDepth 20000 in
theorem wc_x_canWake_x_from_234 : GoodIn wq_x_canWake (wsV RX8 234 RX5 yX5_from wq_x_from) := goodIn_app (goodIn_of _ (by decide +kernel)) (fun w h => ⟨List.mem_append_right _ (List.mem_append_right _ (List.mem_append_right _ (List.mem_append_left _ (h)))), (wg_x_from w h).2⟩)
set_option maxRecDepth 20000 in
theorem wc_x_canWake_x_sus_224 : GoodIn wq_x_canWake (wsV RX8 224 RX8 yX8_startingUpOrStopping wq_x_sus) := goodIn_app (goodIn_of _ (by decide +kernel)) (fun w h => ⟨List.mem_append_right _ (List.mem_append_right _ (List.mem_append_right _ (List.mem_append_right _ (h)))), (wg_x_sus w h).2⟩)
def rm_x_canWake : Room := { frames := 2, cells := 0, slots := 0, locals := 43 }
set_option maxHeartbeats 4000000 in
set_option maxRecDepth 100000 in
theorem c_x_canWake (l : Launch) (dC : Nat → ClassId) (dI : Nat → Nat → Nat) (h : Nat) (a : Nat → Nat) (e : Nat) (cI cJ cO cE : ClassId) (L : Nat → Int64) (I : Nat → Int32) (M : Nat → Nat → Int64) (J : Nat → Nat → Int32) (n cap : Nat) (fE : Nat → Option Nat) (sd : Nat → Nat → Nat) (si : Nat → Nat → Int32) (sa : Nat → Nat → Nat → Int32) (dl : Nat → Nat) (b : Nat) (sv : Nat) (sz : Nat) (hX0 : InvX n cap fE sd dl b I J si) (hb0 : b + 0 < 2147483648) (hp0 : sv < n) : Met l yX8_canWake wq_x_canWake rm_x_canWake (va_Pc [.ref h, .int (nI sv)] (fun U => U.heap.size = sz ∧ va_P (dC, dI) vwCl (xW h a e cI cJ cO cE L I M J n cap fE sd si sa dl) U.heap ∧ va_K (dC, dI) vwCl (xT cI cJ cO cE) U ∧ va_D (fun _ => True) (xW h a e cI cJ cO cE L I M J n cap fE sd si sa dl) ∧ pw_N U)) (va_Qi (fun (r : Int32) (u : Unit) => (r = 0 ∨ r = 1)) (fun (u : Unit) (t : State) => va_P (dC, dI) vwCl (xW h a e cI cJ cO cE L I M J n cap fE sd si sa dl) t.heap ∧ va_D (va_A (xW h a e cI cJ cO cE L I M J n cap fE sd si sa dl) sz) (xW h a e cI cJ cO cE L I M J n cap fE sd si sa dl)) (va_A (xW h a e cI cJ cO cE L I M J n cap fE sd si sa dl) sz)) 0 0 (va_A (xW h a e cI cJ cO cE L I M J n cap fE sd si sa dl) sz) := by
  have hn : n ≤ 40 := hX0.1.1
  have hX := hX0
  refine Met.ofW (cc := cX8_canWake) (maxL := 2) (ret := (some .boolean)) (by decide) rfl ?_
  intro p e9 s m args below meth c s₁ B hml hv
  obtain ⟨rfl, hsz, hP, hK, hD0, hN⟩ := hv
  have hx := B.exec
  have hb := B.bytes
  have hr := B.returns
  have hts := atoms_spec (ws := wq_x_canWake) B.pre
  have hown : s.vm.findClass RX8 = some m.cls := findClass_of_methodNamed B.named
  have hlocks := B.notSynchronized
  subst hsz
  have hD := hD0.self (sz := s.heap.size)
  generalize hAe : va_A (xW h a e cI cJ cO cE L I M J n cap fE sd si sa dl) s.heap.size = A at hD ⊢
  have hA : ∀ q : Nat, s.heap.size ≤ q → A q := fun q h => by rw [← hAe]; exact Or.inr h
  have hS : va_S A s.heap s.heap [] := va_S.rf
  have hl := lv_entry ([.ref h, .int (nI sv)]) (n := 2) (Nat.le_of_ble_eq_true rfl)
  rw [lg_entry_eq]
  generalize (lg_sl ([.ref h, .int (nI sv)]) ++ List.replicate (2 - (lg_sl ([.ref h, .int (nI sv)])).length) Slot.unset).toArray = ls at hl ⊢
  have hl : lv_has ls 2 [(0, .ref h), (1, .int (nI sv))] := hl
  refine lv_aload_n hx hb dX8_canWake_0 rfl (lv_at hl 0 rfl) ?_
  refine lv_iload_n hx hb dX8_canWake_1 rfl (lv_at hl 1 rfl) ?_
  have hFc := mw_free hD hS hA
  refine va_calli (va_runV (As := [.int (nI sv)]) (rest := []) ⟨hx, hb, hml, hown, hts⟩ (c_x_hasItsNeeds l dC dI h a e cI cJ cO cE L I M J n cap fE sd si sa dl (b) sv s.heap.size hX (by omega) (by omega)) (cwV 1 hts wc_x_canWake_x_hasItsNeeds_231 rfl rfl rfl (by decide +kernel) ⟨Nat.le_of_ble_eq_true rfl, Nat.le_of_ble_eq_true rfl⟩) ⟨fun a9 U g mk q => by obtain ⟨q0, q1, qP, qK, qD, qN⟩ := q; exact ⟨q0, q1, qP, va_K.moved (u := U) (U := U.calling g mk a9) (Vm.Alike.refl U.vm) qK, qD, pw_N.same (u := U) (U := U.calling g mk a9) rfl qN⟩, va_recv hK hP (ci := 9) (q0 := 0) rfl rfl, fun U hU hW => ⟨rfl, by rw [hU], by rw [hU]; exact hP, va_K.moved hW.alike hK, hD.weaken (fun _ _ _ _ => trivial), pw_N.warm hW hN⟩⟩ rfl rfl hl.1 rfl (lv_room (Nat.le_of_ble_eq_true rfl)) dX8_canWake_2 ⟨Nat.le_of_ble_eq_true rfl, Nat.le_of_ble_eq_true rfl⟩) hS (fun q _ h => hFc q h) hFc (fun r1 u t H1 locs ht hvm hw hB hz1 hk1 hS => ?_)
  replace hP := hB.1
  rw [ht] at hP
  replace hD : va_D A (xW h a e cI cJ cO cE L I M J n cap fE sd si sa dl) := hB.2.weaken (fun _ q _ h9 => hFc q.1 h9)
  clear hB
  generalize H1 = H at hP hS ⊢
  replace hP : va_P (dC, dI) vwCl (xW h a e cI cJ cO cE L I M J n cap fE sd si sa dl) H := hP
  have br1 := hw
  refine lv_if_eq (tgt := 31) hx hb dX8_canWake_5 (by decide) (fun c2 => ?_) (fun c2 => ?_)
  · refine lv_iconst (v := 0) hx hb dX8_canWake_31 (by decide) ?_
    exact W.zret (v := 0) hx hb hr (by decide) (fun t ht hW => ⟨⟨0, (), rfl, Or.inl rfl, by rw [ht]; exact hP, hD⟩, hS.F ht⟩) hS.2.2 dX8_canWake_32
  · refine lv_aload_n hx hb dX8_canWake_8 rfl (lv_at hl 0 rfl) ?_
    refine va_get (D := (dC, dI)) (ci := 9) (v := .ref (a 1)) (C := RX8) (T := TX8) (N := 14) hx hb hts in_x_canWake_X8 hown hK hP 0 rfl rfl 1 (by decide) (hts (.fieldLink RX8 19 "ServiceTree" "relations" "LServiceTree$Relations;") (by decide +kernel)) (fun _ h9 => h9) rfl dX8_canWake_9 ?_
    refine lv_iconst (v := 3) hx hb dX8_canWake_12 (by decide) ?_
    refine lv_iload_n hx hb dX8_canWake_13 rfl (lv_at hl 1 rfl) ?_
    have hFc := mw_free hD hS hA
    refine va_calll (va_runV (As := [.int 3, .int (nI sv)]) (rest := []) ⟨hx, hb, hml, hown, hts⟩ (c_x_from l dC dI h a e cI cJ cO cE L I M J n cap fE sd si sa dl (b) 3 sv H.size hX (by omega) (by omega) (by omega)) (cwV 2 hts wc_x_canWake_x_from_234 rfl rfl rfl (by decide +kernel) ⟨Nat.le_of_ble_eq_true rfl, Nat.le_of_ble_eq_true rfl⟩) ⟨fun a9 U g mk q => by obtain ⟨q0, q1, qP, qK, qD, qN⟩ := q; exact ⟨q0, q1, qP, va_K.moved (u := U) (U := U.calling g mk a9) (Vm.Alike.refl U.vm) qK, qD, pw_N.same (u := U) (U := U.calling g mk a9) rfl qN⟩, va_recv hK hP (ci := 6) (q0 := 2) rfl rfl, fun U hU hW => ⟨rfl, by rw [hU], by rw [hU]; exact hP, va_K.moved hW.alike hK, hD.weaken (fun _ _ _ _ => trivial), pw_N.warm hW hN⟩⟩ rfl rfl hl.1 rfl (lv_room (Nat.le_of_ble_eq_true rfl)) dX8_canWake_14 ⟨Nat.le_of_ble_eq_true rfl, Nat.le_of_ble_eq_true rfl⟩) hS (fun q _ h => hFc q h) hFc (fun r3 u t H1 locs ht hvm hw hB hz1 hk1 hS => ?_)
    replace hP := hB.1
    rw [ht] at hP
    replace hD : va_D A (xW h a e cI cJ cO cE L I M J n cap fE sd si sa dl) := hB.2.weaken (fun _ q _ h9 => hFc q.1 h9)
    clear hB
    generalize H1 = H at hP hS ⊢
    replace hP : va_P (dC, dI) vwCl (xW h a e cI cJ cO cE L I M J n cap fE sd si sa dl) H := hP
    refine lv_aload_n hx hb dX8_canWake_17 rfl (lv_at hl 0 rfl) ?_
    have hFc := mw_free hD hS hA
    refine va_calll (va_runV (As := []) (rest := [.long r3]) ⟨hx, hb, hml, hown, hts⟩ (c_x_sus l dC dI h a e cI cJ cO cE L I M J n cap fE sd si sa dl (b)  H.size hX (by omega) ) (cwV 0 hts wc_x_canWake_x_sus_224 rfl rfl rfl (by decide +kernel) ⟨Nat.le_of_ble_eq_true rfl, Nat.le_of_ble_eq_true rfl⟩) ⟨fun a9 U g mk q => by obtain ⟨q0, q1, qP, qK, qD, qN⟩ := q; exact ⟨q0, q1, qP, va_K.moved (u := U) (U := U.calling g mk a9) (Vm.Alike.refl U.vm) qK, qD, pw_N.same (u := U) (U := U.calling g mk a9) rfl qN⟩, va_recv hK hP (ci := 9) (q0 := 0) rfl rfl, fun U hU hW => ⟨rfl, by rw [hU], by rw [hU]; exact hP, va_K.moved hW.alike hK, hD.weaken (fun _ _ _ _ => trivial), pw_N.warm hW hN⟩⟩ rfl rfl hl.1 rfl (lv_room (Nat.le_of_ble_eq_true rfl)) dX8_canWake_18 ⟨Nat.le_of_ble_eq_true rfl, Nat.le_of_ble_eq_true rfl⟩) hS (fun q _ h => hFc q h) hFc (fun r4 u t H1 locs ht hvm hw hB hz1 hk1 hS => ?_)
    replace hP := hB.1
    rw [ht] at hP
    replace hD : va_D A (xW h a e cI cJ cO cE L I M J n cap fE sd si sa dl) := hB.2.weaken (fun _ q _ h9 => hFc q.1 h9)
    clear hB
    generalize H1 = H at hP hS ⊢
    replace hP : va_P (dC, dI) vwCl (xW h a e cI cJ cO cE L I M J n cap fE sd si sa dl) H := hP
    refine lv_land hx hb dX8_canWake_21 ?_
    refine lv_topl (fun x5 ex5 => ?_)
    refine lv_lconst (v := 0) hx hb dX8_canWake_22 (by decide) ?_
    refine W.lcmp hx hb dX8_canWake_23 ?_
    refine lv_topi (fun x6 ex6 => ?_)
    refine lv_if_ne (tgt := 31) hx hb dX8_canWake_24 (by decide) (fun c7 => ?_) (fun c7 => ?_)
    · refine lv_iconst (v := 0) hx hb dX8_canWake_31 (by decide) ?_
      exact W.zret (v := 0) hx hb hr (by decide) (fun t ht hW => ⟨⟨0, (), rfl, Or.inl rfl, by rw [ht]; exact hP, hD⟩, hS.F ht⟩) hS.2.2 dX8_canWake_32
    · refine lv_iconst (v := 1) hx hb dX8_canWake_27 (by decide) ?_
      refine lv_goto (tgt := 32) hx hb dX8_canWake_28 (by decide) ?_
      exact W.zret (v := 1) hx hb hr (by decide) (fun t ht hW => ⟨⟨1, (), rfl, Or.inr rfl, by rw [ht]; exact hP, hD⟩, hS.F ht⟩) hS.2.2 dX8_canWake_32
def wq_x_endLife : List Cond := [.code yX8_endLife cX8_endLife 3 none, .fieldLink RX8 10 "ServiceTree" "services" "Ljava/util/ArrayList;", .classLink RX8 65 RX7, .fieldLink RX8 67 "ServiceTree" "now" "I", .fieldLink RX8 311 "ServiceTree" "living" "J", .constantLong RX8 238 (-1), .methodLink RX8 86 yJx4a65c_get_915e3, .instanceMethod yJx4a65c_get_915e3, .selects RJx4a65c yJx4a65c_get_915e3 yJx4a65c_get_915e3, .initialized RJx4a65c, .methodLink RX8 332 yX6_allowed, .instanceMethod yX6_allowed, .selects RX6 yX6_allowed yX6_allowed, .initialized RX6, .methodLink RX8 249 yX8_enter, .instanceMethod yX8_enter, .selects RX8 yX8_enter yX8_enter, .initialized RX8, .methodLink RX8 329 yX7_endByItself, .instanceMethod yX7_endByItself, .selects RX7 yX7_endByItself yX7_endByItself, .initialized RX7, .methodLink RX8 78 yX8_only, .static yX8_only] ++ (wsX70 ++ (wsX80 ++ (wq_x_get ++ (wq_x_allowed ++ (wq_x_enter ++ (wq_x_endBy ++ (wq_x_only)))))))
theorem in_x_endLife_X7 : ∀ w ∈ wsX70, w ∈ wq_x_endLife := fun _ h => List.mem_append_right _ (List.mem_append_left _ (h))
theorem in_x_endLife_X8 : ∀ w ∈ wsX80, w ∈ wq_x_endLife := fun _ h => List.mem_append_right _ (List.mem_append_right _ (List.mem_append_left _ (h)))
set_option maxRecDepth 20000 in
theorem wi_x_endLife : ∀ w ∈ wq_x_endLife, w ∈ lw_tbl := List.forall_mem_append.mpr ⟨(by decide +kernel), List.forall_mem_append.mpr ⟨inKX7, List.forall_mem_append.mpr ⟨inKX8, List.forall_mem_append.mpr ⟨wi_x_get, List.forall_mem_append.mpr ⟨wi_x_allowed, List.forall_mem_append.mpr ⟨wi_x_enter, List.forall_mem_append.mpr ⟨wi_x_endBy, wi_x_only⟩⟩⟩⟩⟩⟩⟩
set_option maxRecDepth 20000 in
theorem wg_x_endLife : GoodIn wq_x_endLife wq_x_endLife := goodIn_sub (fun _ h => h) (by decide +kernel)
set_option maxRecDepth 20000 in
theorem wc_x_endLife_x_get_86 : GoodIn wq_x_endLife (wsV RX8 86 RJx4a65c yJx4a65c_get_915e3 wq_x_get) := goodIn_app (goodIn_of _ (by decide +kernel)) (fun w h => ⟨List.mem_append_right _ (List.mem_append_right _ (List.mem_append_right _ (List.mem_append_left _ (h)))), (wg_x_get w h).2⟩)
set_option maxRecDepth 20000 in
theorem wc_x_endLife_x_allowed_332 : GoodIn wq_x_endLife (wsV RX8 332 RX6 yX6_allowed wq_x_allowed) := goodIn_app (goodIn_of _ (by decide +kernel)) (fun w h => ⟨List.mem_append_right _ (List.mem_append_right _ (List.mem_append_right _ (List.mem_append_right _ (List.mem_append_left _ (h))))), (wg_x_allowed w h).2⟩)
set_option maxRecDepth 20000 in
theorem wc_x_endLife_x_enter_249 : GoodIn wq_x_endLife (wsV RX8 249 RX8 yX8_enter wq_x_enter) := goodIn_app (goodIn_of _ (by decide +kernel)) (fun w h => ⟨List.mem_append_right _ (List.mem_append_right _ (List.mem_append_right _ (List.mem_append_right _ (List.mem_append_right _ (List.mem_append_left _ (h)))))), (wg_x_enter w h).2⟩)
set_option maxRecDepth 20000 in
theorem wc_x_endLife_x_endBy_329 : GoodIn wq_x_endLife (wsV RX8 329 RX7 yX7_endByItself wq_x_endBy) := goodIn_app (goodIn_of _ (by decide +kernel)) (fun w h => ⟨List.mem_append_right _ (List.mem_append_right _ (List.mem_append_right _ (List.mem_append_right _ (List.mem_append_right _ (List.mem_append_right _ (List.mem_append_left _ (h))))))), (wg_x_endBy w h).2⟩)
set_option maxRecDepth 20000 in
theorem wc_x_endLife_x_only_78 : GoodIn wq_x_endLife (va_wsS RX8 78 yX8_only wq_x_only) := goodIn_app (goodIn_of _ (by decide +kernel)) (fun w h => ⟨List.mem_append_right _ (List.mem_append_right _ (List.mem_append_right _ (List.mem_append_right _ (List.mem_append_right _ (List.mem_append_right _ (List.mem_append_right _ (h))))))), (wg_x_only w h).2⟩)
def rm_x_endLife : Room := { frames := 4, cells := 0, slots := 0, locals := 89 }
set_option maxHeartbeats 4000000 in
set_option maxRecDepth 100000 in
theorem c_x_endLife (l : Launch) (dC : Nat → ClassId) (dI : Nat → Nat → Nat) (h : Nat) (a : Nat → Nat) (e : Nat) (cI cJ cO cE : ClassId) (L : Nat → Int64) (I : Nat → Int32) (M : Nat → Nat → Int64) (J : Nat → Nat → Int32) (n cap : Nat) (fE : Nat → Option Nat) (sd : Nat → Nat → Nat) (si : Nat → Nat → Int32) (sa : Nat → Nat → Nat → Int32) (dl : Nat → Nat) (b : Nat) (sv : Nat) (sz : Nat) (hX0 : InvX n cap fE sd dl b I J si) (hb0 : b + 1 < 2147483648) (hp0 : sv < n) : Met l yX8_endLife wq_x_endLife rm_x_endLife (va_Pc [.ref h, .int (nI sv)] (fun U => U.heap.size = sz ∧ va_P (dC, dI) vwCl (xW h a e cI cJ cO cE L I M J n cap fE sd si sa dl) U.heap ∧ va_K (dC, dI) vwCl (xT cI cJ cO cE) U ∧ va_D (fun _ => True) (xW h a e cI cJ cO cE L I M J n cap fE sd si sa dl) ∧ pw_N U)) (va_Qv (fun (u : (Nat → Int64) × (Nat → Int32) × (Nat → Nat → Int64) × (Nat → Nat → Int32) × (Nat → Nat → Nat → Int32)) => InvX n cap fE sd dl (b + 1) u.2.1 J u.2.2.2.1 ∧ (∀ j9 : Nat, j9 ∉ ([0, 5, 6, 7] : List Nat) → u.1 j9 = L j9) ∧ (∀ j9 : Nat, j9 ∉ ([12] : List Nat) → u.2.1 j9 = I j9) ∧ (∀ j9 : Nat, j9 ∉ ([8, 9] : List Nat) → u.2.2.1 j9 = M j9) ∧ (∀ s9 q9 : Nat, q9 ∉ ([6, 7, 8, 9, 10, 11, 21, 22] : List Nat) → u.2.2.2.1 s9 q9 = si s9 q9) ∧ (∀ s9 q9 : Nat, q9 ∉ ([3] : List Nat) → u.2.2.2.2 s9 q9 = sa s9 q9) ∧ (True)) (fun (u : (Nat → Int64) × (Nat → Int32) × (Nat → Nat → Int64) × (Nat → Nat → Int32) × (Nat → Nat → Nat → Int32)) (t : State) => va_P (dC, dI) vwCl (xW h a e cI cJ cO cE u.1 u.2.1 u.2.2.1 J n cap fE sd u.2.2.2.1 u.2.2.2.2 dl) t.heap ∧ va_D (va_A (xW h a e cI cJ cO cE L I M J n cap fE sd si sa dl) sz) (xW h a e cI cJ cO cE u.1 u.2.1 u.2.2.1 J n cap fE sd u.2.2.2.1 u.2.2.2.2 dl)) (va_A (xW h a e cI cJ cO cE L I M J n cap fE sd si sa dl) sz)) 0 0 (va_A (xW h a e cI cJ cO cE L I M J n cap fE sd si sa dl) sz) := by
  have hn : n ≤ 40 := hX0.1.1
  have hX := hX0
  have hUL : ∀ j9 : Nat, j9 ∉ ([0, 5, 6, 7] : List Nat) → L j9 = L j9 := fun _ _ => rfl
  have hUI : ∀ j9 : Nat, j9 ∉ ([12] : List Nat) → I j9 = I j9 := fun _ _ => rfl
  have hUM : ∀ j9 : Nat, j9 ∉ ([8, 9] : List Nat) → M j9 = M j9 := fun _ _ => rfl
  have hUsi : ∀ s9 q9 : Nat, q9 ∉ ([6, 7, 8, 9, 10, 11, 21, 22] : List Nat) → si s9 q9 = si s9 q9 := fun _ _ _ => rfl
  have hUsa : ∀ s9 q9 : Nat, q9 ∉ ([3] : List Nat) → sa s9 q9 = sa s9 q9 := fun _ _ _ => rfl
  refine Met.ofW (cc := cX8_endLife) (maxL := 3) (ret := none) (by decide) rfl ?_
  intro p e9 s m args below meth c s₁ B hml hv
  obtain ⟨rfl, hsz, hP, hK, hD0, hN⟩ := hv
  have hx := B.exec
  have hb := B.bytes
  have hr := B.returns
  have hts := atoms_spec (ws := wq_x_endLife) B.pre
  have hown : s.vm.findClass RX8 = some m.cls := findClass_of_methodNamed B.named
  have hlocks := B.notSynchronized
  subst hsz
  have hD := hD0.self (sz := s.heap.size)
  generalize hAe : va_A (xW h a e cI cJ cO cE L I M J n cap fE sd si sa dl) s.heap.size = A at hD ⊢
  have hA : ∀ q : Nat, s.heap.size ≤ q → A q := fun q h => by rw [← hAe]; exact Or.inr h
  have hS : va_S A s.heap s.heap [] := va_S.rf
  have hl := lv_entry ([.ref h, .int (nI sv)]) (n := 3) (Nat.le_of_ble_eq_true rfl)
  rw [lg_entry_eq]
  generalize (lg_sl ([.ref h, .int (nI sv)]) ++ List.replicate (3 - (lg_sl ([.ref h, .int (nI sv)])).length) Slot.unset).toArray = ls at hl ⊢
  have hl : lv_has ls 3 [(0, .ref h), (1, .int (nI sv))] := hl
  refine lv_aload_n hx hb dX8_endLife_0 rfl (lv_at hl 0 rfl) ?_
  refine va_get (D := (dC, dI)) (ci := 9) (v := .ref (a 0)) (C := RX8) (T := TX8) (N := 14) hx hb hts in_x_endLife_X8 hown hK hP 0 rfl rfl 0 (by decide) (hts (.fieldLink RX8 10 "ServiceTree" "services" "Ljava/util/ArrayList;") (by decide +kernel)) (fun _ h9 => h9) rfl dX8_endLife_1 ?_
  refine lv_iload_n hx hb dX8_endLife_4 rfl (lv_at hl 1 rfl) ?_
  have hFc := mw_free hD hS hA
  refine va_callr (va_runV (As := [.int (nI sv)]) (rest := []) ⟨hx, hb, hml, hown, hts⟩ (c_x_get l dC dI h a e cI cJ cO cE L I M J n cap fE sd si sa dl (b) sv s.heap.size hX (by omega) (by omega)) (cwV 1 hts wc_x_endLife_x_get_86 rfl rfl rfl (by decide +kernel) ⟨Nat.le_of_ble_eq_true rfl, Nat.le_of_ble_eq_true rfl⟩) ⟨fun a9 U g mk q => by obtain ⟨q0, q1, qP, qK, qD, qN⟩ := q; exact ⟨q0, q1, qP, va_K.moved (u := U) (U := U.calling g mk a9) (Vm.Alike.refl U.vm) qK, qD, pw_N.same (u := U) (U := U.calling g mk a9) rfl qN⟩, va_recv hK hP (ci := 0) (q0 := 1) rfl rfl, fun U hU hW => ⟨rfl, by rw [hU], by rw [hU]; exact hP, va_K.moved hW.alike hK, hD.weaken (fun _ _ _ _ => trivial), pw_N.warm hW hN⟩⟩ rfl rfl hl.1 rfl (lv_room (Nat.le_of_ble_eq_true rfl)) dX8_endLife_5 ⟨Nat.le_of_ble_eq_true rfl, Nat.le_of_ble_eq_true rfl⟩) hS (fun q _ h => hFc q h) hFc (fun u r1 t H1 locs ht hvm hw hB hz1 hk1 hS => ?_)
  obtain ⟨hra, hB⟩ := hB
  replace hP := hB.1
  rw [ht] at hP
  replace hD : va_D A (xW h a e cI cJ cO cE L I M J n cap fE sd si sa dl) := hB.2.weaken (fun _ q _ h9 => hFc q.1 h9)
  clear hB
  generalize H1 = H at hP hS ⊢
  replace hP : va_P (dC, dI) vwCl (xW h a e cI cJ cO cE L I M J n cap fE sd si sa dl) H := hP
  subst hra
  refine va_castS hx hb hown (hts (.classLink RX8 65 RX7) (by decide +kernel)) (hK.1 8 _ rfl).2 (va_recv hK hP (ci := 8) (q0 := (22 + (6 * sv + 0))) rfl (xAt_0 h a e cI cJ cO cE L I M J n cap fE sd si sa dl (s := sv) (by omega))) dX8_endLife_8 ?_
  refine lv_astore_n (lv' := [(2, .ref (sd sv 0)), (0, .ref h), (1, .int (nI sv))]) hx hb dX8_endLife_11 rfl hl (by decide) rfl (fun ls hl => ?_)
  refine lv_aload_n hx hb dX8_endLife_12 rfl (lv_at hl 0 rfl) ?_
  refine va_getN (D := (dC, dI)) (ci := 8) (v := .int (si sv 0)) (C := RX7) (T := TX7) (N := 12) hx hb hts in_x_endLife_X7 hown hK hP (22 + (6 * sv + 0)) (xAt_0 h a e cI cJ cO cE L I M J n cap fE sd si sa dl (s := sv) (by omega)) rfl 0 (by decide) (va_Nw.use rfl (hN (.fieldLinkNest RX8 90 "ServiceTree$Service" "kind" "I" "ServiceTree") (by decide +kernel))) (fun _ h9 => h9) rfl dX8_endLife_13 ?_
  refine lv_topi (fun x2 ex2 => ?_)
  refine lv_iconst (v := 1) hx hb dX8_endLife_16 (by decide) ?_
  refine lv_icmp_ne (tgt := 42) hx hb dX8_endLife_17 (by decide) (fun c3 => ?_) (fun c3 => ?_)
  · refine lv_aload_n hx hb dX8_endLife_42 rfl (lv_at hl 1 rfl) ?_
    refine lv_iload_n hx hb dX8_endLife_43 rfl (lv_at hl 2 rfl) ?_
    refine lv_aload_n hx hb dX8_endLife_44 rfl (lv_at hl 0 rfl) ?_
    refine va_getN (D := (dC, dI)) (ci := 8) (v := .ref (sd sv 2)) (C := RX7) (T := TX7) (N := 12) hx hb hts in_x_endLife_X7 hown hK hP (22 + (6 * sv + 0)) (xAt_0 h a e cI cJ cO cE L I M J n cap fE sd si sa dl (s := sv) (by omega)) rfl 4 (by decide) (va_Nw.use rfl (hN (.fieldLinkNest RX8 97 "ServiceTree$Service" "restarts" "LServiceTree$Restarts;" "ServiceTree") (by decide +kernel))) (fun _ h9 => h9) rfl dX8_endLife_45 ?_
    refine lv_aload_n hx hb dX8_endLife_48 rfl (lv_at hl 1 rfl) ?_
    refine va_get (D := (dC, dI)) (ci := 9) (v := .int (I 0)) (C := RX8) (T := TX8) (N := 14) hx hb hts in_x_endLife_X8 hown hK hP 0 rfl rfl 9 (by decide) (hts (.fieldLink RX8 67 "ServiceTree" "now" "I") (by decide +kernel)) (fun _ h9 => h9) rfl dX8_endLife_49 ?_
    refine lv_topi (fun x4 ex4 => ?_)
    have hFc := mw_free hD hS hA
    refine va_calli (va_runV (As := [.int x4]) (rest := [.int (nI sv), .ref h]) ⟨hx, hb, hml, hown, hts⟩ (c_x_allowed l dC dI h a e cI cJ cO cE L I M J n cap fE sd si sa dl (b) sv x4 H.size hX (by omega) (by omega)) (cwV 1 hts wc_x_endLife_x_allowed_332 rfl rfl rfl (by decide +kernel) ⟨Nat.le_of_ble_eq_true rfl, Nat.le_of_ble_eq_true rfl⟩) ⟨fun a9 U g mk q => by obtain ⟨q0, q1, qP, qK, qD, qN⟩ := q; exact ⟨q0, q1, qP, va_K.moved (u := U) (U := U.calling g mk a9) (Vm.Alike.refl U.vm) qK, qD, pw_N.same (u := U) (U := U.calling g mk a9) rfl qN⟩, va_recv hK hP (ci := 7) (q0 := (22 + (6 * sv + 2))) rfl (xAt_2 h a e cI cJ cO cE L I M J n cap fE sd si sa dl (s := sv) (by omega)), fun U hU hW => ⟨rfl, by rw [hU], by rw [hU]; exact hP, va_K.moved hW.alike hK, hD.weaken (fun _ _ _ _ => trivial), pw_N.warm hW hN⟩⟩ rfl rfl hl.1 rfl (lv_room (Nat.le_of_ble_eq_true rfl)) dX8_endLife_52 ⟨Nat.le_of_ble_eq_true rfl, Nat.le_of_ble_eq_true rfl⟩) hS (fun q _ h => hFc q h) hFc (fun r5 u t H1 locs ht hvm hw hB hz1 hk1 hS => ?_)
    replace hP := hB.1
    rw [ht] at hP
    replace hD : va_D A (xW h a e cI cJ cO cE L I M J n cap fE sd si sa dl) := hB.2.weaken (fun _ q _ h9 => hFc q.1 h9)
    clear hB
    generalize H1 = H at hP hS ⊢
    replace hP : va_P (dC, dI) vwCl (xW h a e cI cJ cO cE L I M J n cap fE sd si sa dl) H := hP
    refine lv_if_eq (tgt := 62) hx hb dX8_endLife_55 (by decide) (fun c6 => ?_) (fun c6 => ?_)
    · refine lv_iconst (v := 4) hx hb dX8_endLife_62 (by decide) ?_
      have hFc := mw_free hD hS hA
      refine va_callv (va_runV (As := [.int (nI sv), .int 4]) (rest := []) ⟨hx, hb, hml, hown, hts⟩ (c_x_enter l dC dI h a e cI cJ cO cE L I M J n cap fE sd si sa dl (b) sv 4 H.size hX (by omega) (by omega) (by omega)) (cwV 2 hts wc_x_endLife_x_enter_249 rfl rfl rfl (by decide +kernel) ⟨Nat.le_of_ble_eq_true rfl, Nat.le_of_ble_eq_true rfl⟩) ⟨fun a9 U g mk q => by obtain ⟨q0, q1, qP, qK, qD, qN⟩ := q; exact ⟨q0, q1, qP, va_K.moved (u := U) (U := U.calling g mk a9) (Vm.Alike.refl U.vm) qK, qD, pw_N.same (u := U) (U := U.calling g mk a9) rfl qN⟩, va_recv hK hP (ci := 9) (q0 := 0) rfl rfl, fun U hU hW => ⟨rfl, by rw [hU], by rw [hU]; exact hP, va_K.moved hW.alike hK, hD.weaken (fun _ _ _ _ => trivial), pw_N.warm hW hN⟩⟩ rfl rfl hl.1 rfl (lv_room (Nat.le_of_ble_eq_true rfl)) dX8_endLife_63 ⟨Nat.le_of_ble_eq_true rfl, Nat.le_of_ble_eq_true rfl⟩) hS (fun q _ h => hFc q h) hFc (fun u t H1 locs ht hvm hw hB hz1 hk1 hS => ?_)
      obtain ⟨L8, I9, M10, si11, sa12⟩ := u
      replace hP := hB.1
      rw [ht] at hP
      replace hD : va_D A (xW h a e cI cJ cO cE L8 I9 M10 J n cap fE sd si11 sa12 dl) := hB.2.weaken (fun _ q _ h9 => hFc q.1 h9)
      clear hB
      generalize H1 = H at hP hS ⊢
      replace hP : va_P (dC, dI) vwCl (xW h a e cI cJ cO cE L8 I9 M10 J n cap fE sd si11 sa12 dl) H := hP
      obtain ⟨hwX, whUL, whUI, whUM, whUsi, whUsa, hw⟩ := hw
      replace hX : InvX n cap fE sd dl (b + 1) I9 J si11 := hwX
      replace hUL : ∀ j9 : Nat, j9 ∉ ([0, 5, 6, 7] : List Nat) → L8 j9 = L j9 := mw_tr (by decide) whUL hUL
      replace hUI : ∀ j9 : Nat, j9 ∉ ([12] : List Nat) → I9 j9 = I j9 := mw_tr (by decide) whUI hUI
      replace hUM : ∀ j9 : Nat, j9 ∉ ([8, 9] : List Nat) → M10 j9 = M j9 := mw_tr (by decide) whUM hUM
      replace hUsi : ∀ s9 q9 : Nat, q9 ∉ ([6, 7, 8, 9, 10, 11, 21, 22] : List Nat) → si11 s9 q9 = si s9 q9 := xw_tr2 (by decide) whUsi hUsi
      replace hUsa : ∀ s9 q9 : Nat, q9 ∉ ([3] : List Nat) → sa12 s9 q9 = sa s9 q9 := xw_tr2 (by decide) whUsa hUsa
      exact W.vret hx hb hr (fun t ht hW => ⟨⟨(L8, I9, M10, si11, sa12), rfl, ⟨hX.mono (by omega), hUL, hUI, hUM, hUsi, hUsa, trivial⟩, by rw [ht]; exact hP, hD⟩, hS.F ht⟩) hS.2.2 dX8_endLife_66
    · refine lv_iconst (v := 5) hx hb dX8_endLife_58 (by decide) ?_
      refine lv_goto (tgt := 63) hx hb dX8_endLife_59 (by decide) ?_
      have hFc := mw_free hD hS hA
      refine va_callv (va_runV (As := [.int (nI sv), .int 5]) (rest := []) ⟨hx, hb, hml, hown, hts⟩ (c_x_enter l dC dI h a e cI cJ cO cE L I M J n cap fE sd si sa dl (b) sv 5 H.size hX (by omega) (by omega) (by omega)) (cwV 2 hts wc_x_endLife_x_enter_249 rfl rfl rfl (by decide +kernel) ⟨Nat.le_of_ble_eq_true rfl, Nat.le_of_ble_eq_true rfl⟩) ⟨fun a9 U g mk q => by obtain ⟨q0, q1, qP, qK, qD, qN⟩ := q; exact ⟨q0, q1, qP, va_K.moved (u := U) (U := U.calling g mk a9) (Vm.Alike.refl U.vm) qK, qD, pw_N.same (u := U) (U := U.calling g mk a9) rfl qN⟩, va_recv hK hP (ci := 9) (q0 := 0) rfl rfl, fun U hU hW => ⟨rfl, by rw [hU], by rw [hU]; exact hP, va_K.moved hW.alike hK, hD.weaken (fun _ _ _ _ => trivial), pw_N.warm hW hN⟩⟩ rfl rfl hl.1 rfl (lv_room (Nat.le_of_ble_eq_true rfl)) dX8_endLife_63 ⟨Nat.le_of_ble_eq_true rfl, Nat.le_of_ble_eq_true rfl⟩) hS (fun q _ h => hFc q h) hFc (fun u t H1 locs ht hvm hw hB hz1 hk1 hS => ?_)
      obtain ⟨L14, I15, M16, si17, sa18⟩ := u
      replace hP := hB.1
      rw [ht] at hP
      replace hD : va_D A (xW h a e cI cJ cO cE L14 I15 M16 J n cap fE sd si17 sa18 dl) := hB.2.weaken (fun _ q _ h9 => hFc q.1 h9)
      clear hB
      generalize H1 = H at hP hS ⊢
      replace hP : va_P (dC, dI) vwCl (xW h a e cI cJ cO cE L14 I15 M16 J n cap fE sd si17 sa18 dl) H := hP
      obtain ⟨hwX, whUL, whUI, whUM, whUsi, whUsa, hw⟩ := hw
      replace hX : InvX n cap fE sd dl (b + 1) I15 J si17 := hwX
      replace hUL : ∀ j9 : Nat, j9 ∉ ([0, 5, 6, 7] : List Nat) → L14 j9 = L j9 := mw_tr (by decide) whUL hUL
      replace hUI : ∀ j9 : Nat, j9 ∉ ([12] : List Nat) → I15 j9 = I j9 := mw_tr (by decide) whUI hUI
      replace hUM : ∀ j9 : Nat, j9 ∉ ([8, 9] : List Nat) → M16 j9 = M j9 := mw_tr (by decide) whUM hUM
      replace hUsi : ∀ s9 q9 : Nat, q9 ∉ ([6, 7, 8, 9, 10, 11, 21, 22] : List Nat) → si17 s9 q9 = si s9 q9 := xw_tr2 (by decide) whUsi hUsi
      replace hUsa : ∀ s9 q9 : Nat, q9 ∉ ([3] : List Nat) → sa18 s9 q9 = sa s9 q9 := xw_tr2 (by decide) whUsa hUsa
      exact W.vret hx hb hr (fun t ht hW => ⟨⟨(L14, I15, M16, si17, sa18), rfl, ⟨hX.mono (by omega), hUL, hUI, hUM, hUsi, hUsa, trivial⟩, by rw [ht]; exact hP, hD⟩, hS.F ht⟩) hS.2.2 dX8_endLife_66
  · refine lv_aload_n hx hb dX8_endLife_20 rfl (lv_at hl 0 rfl) ?_
    have hFc := mw_free hD hS hA
    refine va_callv (va_runV (As := []) (rest := []) ⟨hx, hb, hml, hown, hts⟩ (c_x_endBy l dC dI h a e cI cJ cO cE L I M J n cap fE sd si sa dl (b) sv H.size hX (by omega) (by omega)) (cwV 0 hts wc_x_endLife_x_endBy_329 rfl rfl rfl (by decide +kernel) ⟨Nat.le_of_ble_eq_true rfl, Nat.le_of_ble_eq_true rfl⟩) ⟨fun a9 U g mk q => by obtain ⟨q0, q1, qP, qK, qD, qN⟩ := q; exact ⟨q0, q1, qP, va_K.moved (u := U) (U := U.calling g mk a9) (Vm.Alike.refl U.vm) qK, qD, pw_N.same (u := U) (U := U.calling g mk a9) rfl qN⟩, va_recv hK hP (ci := 8) (q0 := (22 + (6 * sv + 0))) rfl (xAt_0 h a e cI cJ cO cE L I M J n cap fE sd si sa dl (s := sv) (by omega)), fun U hU hW => ⟨rfl, by rw [hU], by rw [hU]; exact hP, va_K.moved hW.alike hK, hD.weaken (fun _ _ _ _ => trivial), pw_N.warm hW hN⟩⟩ rfl rfl hl.1 rfl (lv_room (Nat.le_of_ble_eq_true rfl)) dX8_endLife_21 ⟨Nat.le_of_ble_eq_true rfl, Nat.le_of_ble_eq_true rfl⟩) hS (fun q _ h => hFc q h) hFc (fun u t H1 locs ht hvm hw hB hz1 hk1 hS => ?_)
    obtain ⟨si20, rfl⟩ : ∃ z9, z9 = u := ⟨_, rfl⟩
    replace hP := hB.1
    rw [ht] at hP
    replace hD : va_D A (xW h a e cI cJ cO cE L I M J n cap fE sd si20 sa dl) := hB.2.weaken (fun _ q _ h9 => hFc q.1 h9)
    clear hB
    generalize H1 = H at hP hS ⊢
    replace hP : va_P (dC, dI) vwCl (xW h a e cI cJ cO cE L I M J n cap fE sd si20 sa dl) H := hP
    obtain ⟨hwX, whUsi, hw⟩ := hw
    replace hX : InvX n cap fE sd dl (b) I J si20 := hwX
    replace hUsi : ∀ s9 q9 : Nat, q9 ∉ ([6, 7, 8, 9, 10, 11, 21, 22] : List Nat) → si20 s9 q9 = si s9 q9 := xw_tr2 (by decide) whUsi hUsi
    refine lv_aload_n hx hb dX8_endLife_24 rfl (lv_at hl 1 rfl) ?_
    refine lv_dup hx hb dX8_endLife_25 rfl ?_
    refine va_get (D := (dC, dI)) (ci := 9) (v := .long (L 0)) (C := RX8) (T := TX8) (N := 14) hx hb hts in_x_endLife_X8 hown hK hP 0 rfl rfl 7 (by decide) (hts (.fieldLink RX8 311 "ServiceTree" "living" "J") (by decide +kernel)) (fun _ h9 => h9) rfl dX8_endLife_26 ?_
    refine lv_topl (fun x21 ex21 => ?_)
    refine lv_iload_n hx hb dX8_endLife_29 rfl (lv_at hl 2 rfl) ?_
    have hFc := mw_free hD hS hA
    refine va_calll (va_runS (As := [.int (nI sv)]) (rest := [.long x21, .ref h]) ⟨hx, hb, hml, hown, hts⟩ (c_x_only l dC dI h a e cI cJ cO cE L I M J n cap fE sd si20 sa dl (b) (nI sv) H.size hX (by omega) ) (va_cwS 1 hts wc_x_endLife_x_only_78 rfl rfl rfl (by decide +kernel) ⟨Nat.le_of_ble_eq_true rfl, Nat.le_of_ble_eq_true rfl⟩) ⟨fun a9 U g mk q => by obtain ⟨q0, q1, qP, qK, qD, qN⟩ := q; exact ⟨q0, q1, qP, va_K.moved (u := U) (U := U.calling g mk a9) (Vm.Alike.refl U.vm) qK, qD, pw_N.same (u := U) (U := U.calling g mk a9) rfl qN⟩, fun U hU hW => ⟨rfl, by rw [hU], by rw [hU]; exact hP, va_K.moved hW.alike hK, hD.weaken (fun _ _ _ _ => trivial), pw_N.warm hW hN⟩⟩ rfl rfl hl.1 rfl (lv_room (Nat.le_of_ble_eq_true rfl)) dX8_endLife_30 ⟨Nat.le_of_ble_eq_true rfl, Nat.le_of_ble_eq_true rfl⟩) hS (fun q _ h => hFc q h) hFc (fun r22 u t H1 locs ht hvm hw hB hz1 hk1 hS => ?_)
    replace hP := hB.1
    rw [ht] at hP
    replace hD : va_D A (xW h a e cI cJ cO cE L I M J n cap fE sd si20 sa dl) := hB.2.weaken (fun _ q _ h9 => hFc q.1 h9)
    clear hB
    generalize H1 = H at hP hS ⊢
    replace hP : va_P (dC, dI) vwCl (xW h a e cI cJ cO cE L I M J n cap fE sd si20 sa dl) H := hP
    refine lv_ldc2 (v := (-1)) hx hb hown (hts (.constantLong RX8 238 (-1)) (by decide +kernel)) dX8_endLife_33 ?_
    refine lv_lxor hx hb dX8_endLife_36 ?_
    refine lv_topl (fun x23 ex23 => ?_)
    refine lv_land hx hb dX8_endLife_37 ?_
    refine lv_topl (fun x24 ex24 => ?_)
    refine va_put (D := (dC, dI)) (ci := 9) (fs := [.ref (a 0), .ref (a 1), .ref (a 2), .ref (a 3), .ref (a 4), .ref (a 5), .ref (a 6), .long (L 0), .long (L 1), .int (I 0), .int (I 1), .int (I 2), .int (I 3), .int (I 4)]) (v := .long x24) (ty := .long) (C := RX8) (T := TX8) (N := 14) hx hb hts in_x_endLife_X8 tyX8 tyX8_ok nmX8 hown hK hP hD hS 0 rfl rfl 7 (by decide) (hts (.fieldLink RX8 311 "ServiceTree" "living" "J") (by decide +kernel)) (fun _ h9 => h9) rfl (by decide +kernel) rfl rfl (Nat.le_of_ble_eq_true rfl) dX8_endLife_38 (fun H locs hP hD hS => ?_)
    replace hP : va_P (dC, dI) vwCl ((xW h a e cI cJ cO cE L I M J n cap fE sd si20 sa dl).set 0 (h, .inr (9, [.ref (a 0), .ref (a 1), .ref (a 2), .ref (a 3), .ref (a 4), .ref (a 5), .ref (a 6), .long x24, .long (L 1), .int (I 0), .int (I 1), .int (I 2), .int (I 3), .int (I 4)]))) H := hP
    replace hD : va_D A ((xW h a e cI cJ cO cE L I M J n cap fE sd si20 sa dl).set 0 (h, .inr (9, [.ref (a 0), .ref (a 1), .ref (a 2), .ref (a 3), .ref (a 4), .ref (a 5), .ref (a 6), .long x24, .long (L 1), .int (I 0), .int (I 1), .int (I 2), .int (I 3), .int (I 4)]))) := hD
    rw [xF_L0] at hP hD
    obtain ⟨L25, eL25⟩ : ∃ f9 : Nat → Int64, f9 = va_up L 0 x24 := ⟨_, rfl⟩
    rw [← eL25] at hP hD
    replace hUL : ∀ j9 : Nat, j9 ∉ ([0, 5, 6, 7] : List Nat) → L25 j9 = L j9 := by rw [eL25]; exact mw_up (by decide) hUL
    exact W.vret hx hb hr (fun t ht hW => ⟨⟨(L25, I, M, si20, sa), rfl, ⟨hX.mono (by omega), hUL, hUI, hUM, hUsi, hUsa, trivial⟩, by rw [ht]; exact hP, hD⟩, hS.F ht⟩) hS.2.2 dX8_endLife_41
def wq_x_passDueTime : List Cond := [.code yX8_passDueTime cX8_passDueTime 3 none, .fieldLink RX8 10 "ServiceTree" "services" "Ljava/util/ArrayList;", .classLink RX8 65 RX7, .methodLink RX8 86 yJx4a65c_get_915e3, .instanceMethod yJx4a65c_get_915e3, .selects RJx4a65c yJx4a65c_get_915e3 yJx4a65c_get_915e3, .initialized RJx4a65c, .methodLink RX8 249 yX8_enter, .instanceMethod yX8_enter, .selects RX8 yX8_enter yX8_enter, .initialized RX8, .methodLink RX8 323 yX8_endLife, .instanceMethod yX8_endLife, .selects RX8 yX8_endLife yX8_endLife, .methodLink RX8 326 yX8_canWake, .instanceMethod yX8_canWake, .selects RX8 yX8_canWake yX8_canWake, .methodLink RX8 305 yX7_firstStateOfStart, .instanceMethod yX7_firstStateOfStart, .selects RX7 yX7_firstStateOfStart yX7_firstStateOfStart, .initialized RX7] ++ (wsX70 ++ (wsX80 ++ (wq_x_get ++ (wq_x_enter ++ (wq_x_endLife ++ (wq_x_canWake ++ (wq_x_fss)))))))
theorem in_x_passDueTime_X7 : ∀ w ∈ wsX70, w ∈ wq_x_passDueTime := fun _ h => List.mem_append_right _ (List.mem_append_left _ (h))
theorem in_x_passDueTime_X8 : ∀ w ∈ wsX80, w ∈ wq_x_passDueTime := fun _ h => List.mem_append_right _ (List.mem_append_right _ (List.mem_append_left _ (h)))
set_option maxRecDepth 20000 in
theorem wi_x_passDueTime : ∀ w ∈ wq_x_passDueTime, w ∈ lw_tbl := List.forall_mem_append.mpr ⟨(by decide +kernel), List.forall_mem_append.mpr ⟨inKX7, List.forall_mem_append.mpr ⟨inKX8, List.forall_mem_append.mpr ⟨wi_x_get, List.forall_mem_append.mpr ⟨wi_x_enter, List.forall_mem_append.mpr ⟨wi_x_endLife, List.forall_mem_append.mpr ⟨wi_x_canWake, wi_x_fss⟩⟩⟩⟩⟩⟩⟩
set_option maxRecDepth 20000 in
theorem wg_x_passDueTime : GoodIn wq_x_passDueTime wq_x_passDueTime := goodIn_sub (fun _ h => h) (by decide +kernel)
set_option maxRecDepth 20000 in
theorem wc_x_passDueTime_x_get_86 : GoodIn wq_x_passDueTime (wsV RX8 86 RJx4a65c yJx4a65c_get_915e3 wq_x_get) := goodIn_app (goodIn_of _ (by decide +kernel)) (fun w h => ⟨List.mem_append_right _ (List.mem_append_right _ (List.mem_append_right _ (List.mem_append_left _ (h)))), (wg_x_get w h).2⟩)
set_option maxRecDepth 20000 in
theorem wc_x_passDueTime_x_enter_249 : GoodIn wq_x_passDueTime (wsV RX8 249 RX8 yX8_enter wq_x_enter) := goodIn_app (goodIn_of _ (by decide +kernel)) (fun w h => ⟨List.mem_append_right _ (List.mem_append_right _ (List.mem_append_right _ (List.mem_append_right _ (List.mem_append_left _ (h))))), (wg_x_enter w h).2⟩)
set_option maxRecDepth 20000 in
theorem wc_x_passDueTime_x_endLife_323 : GoodIn wq_x_passDueTime (wsV RX8 323 RX8 yX8_endLife wq_x_endLife) := goodIn_app (goodIn_of _ (by decide +kernel)) (fun w h => ⟨List.mem_append_right _ (List.mem_append_right _ (List.mem_append_right _ (List.mem_append_right _ (List.mem_append_right _ (List.mem_append_left _ (h)))))), (wg_x_endLife w h).2⟩)
set_option maxRecDepth 20000 in
theorem wc_x_passDueTime_x_canWake_326 : GoodIn wq_x_passDueTime (wsV RX8 326 RX8 yX8_canWake wq_x_canWake) := goodIn_app (goodIn_of _ (by decide +kernel)) (fun w h => ⟨List.mem_append_right _ (List.mem_append_right _ (List.mem_append_right _ (List.mem_append_right _ (List.mem_append_right _ (List.mem_append_right _ (List.mem_append_left _ (h))))))), (wg_x_canWake w h).2⟩)
set_option maxRecDepth 20000 in
theorem wc_x_passDueTime_x_fss_305 : GoodIn wq_x_passDueTime (wsV RX8 305 RX7 yX7_firstStateOfStart wq_x_fss) := goodIn_app (goodIn_of _ (by decide +kernel)) (fun w h => ⟨List.mem_append_right _ (List.mem_append_right _ (List.mem_append_right _ (List.mem_append_right _ (List.mem_append_right _ (List.mem_append_right _ (List.mem_append_right _ (h))))))), (wg_x_fss w h).2⟩)
def rm_x_passDueTime : Room := { frames := 5, cells := 0, slots := 0, locals := 111 }
set_option maxHeartbeats 4000000 in
set_option maxRecDepth 100000 in
theorem c_x_passDueTime (l : Launch) (dC : Nat → ClassId) (dI : Nat → Nat → Nat) (h : Nat) (a : Nat → Nat) (e : Nat) (cI cJ cO cE : ClassId) (L : Nat → Int64) (I : Nat → Int32) (M : Nat → Nat → Int64) (J : Nat → Nat → Int32) (n cap : Nat) (fE : Nat → Option Nat) (sd : Nat → Nat → Nat) (si : Nat → Nat → Int32) (sa : Nat → Nat → Nat → Int32) (dl : Nat → Nat) (b : Nat) (sv : Nat) (sz : Nat) (hX0 : InvX n cap fE sd dl b I J si) (hb0 : b + 1 < 2147483648) (hp0 : sv < n) : Met l yX8_passDueTime wq_x_passDueTime rm_x_passDueTime (va_Pc [.ref h, .int (nI sv)] (fun U => U.heap.size = sz ∧ va_P (dC, dI) vwCl (xW h a e cI cJ cO cE L I M J n cap fE sd si sa dl) U.heap ∧ va_K (dC, dI) vwCl (xT cI cJ cO cE) U ∧ va_D (fun _ => True) (xW h a e cI cJ cO cE L I M J n cap fE sd si sa dl) ∧ pw_N U)) (va_Qv (fun (u : (Nat → Int64) × (Nat → Int32) × (Nat → Nat → Int64) × (Nat → Nat → Int32) × (Nat → Nat → Nat → Int32)) => InvX n cap fE sd dl (b + 1) u.2.1 J u.2.2.2.1 ∧ (∀ j9 : Nat, j9 ∉ ([0, 5, 6, 7] : List Nat) → u.1 j9 = L j9) ∧ (∀ j9 : Nat, j9 ∉ ([12] : List Nat) → u.2.1 j9 = I j9) ∧ (∀ j9 : Nat, j9 ∉ ([8, 9] : List Nat) → u.2.2.1 j9 = M j9) ∧ (∀ s9 q9 : Nat, q9 ∉ ([6, 7, 8, 9, 10, 11, 21, 22] : List Nat) → u.2.2.2.1 s9 q9 = si s9 q9) ∧ (∀ s9 q9 : Nat, q9 ∉ ([3] : List Nat) → u.2.2.2.2 s9 q9 = sa s9 q9) ∧ (True)) (fun (u : (Nat → Int64) × (Nat → Int32) × (Nat → Nat → Int64) × (Nat → Nat → Int32) × (Nat → Nat → Nat → Int32)) (t : State) => va_P (dC, dI) vwCl (xW h a e cI cJ cO cE u.1 u.2.1 u.2.2.1 J n cap fE sd u.2.2.2.1 u.2.2.2.2 dl) t.heap ∧ va_D (va_A (xW h a e cI cJ cO cE L I M J n cap fE sd si sa dl) sz) (xW h a e cI cJ cO cE u.1 u.2.1 u.2.2.1 J n cap fE sd u.2.2.2.1 u.2.2.2.2 dl)) (va_A (xW h a e cI cJ cO cE L I M J n cap fE sd si sa dl) sz)) 0 0 (va_A (xW h a e cI cJ cO cE L I M J n cap fE sd si sa dl) sz) := by
  have hn : n ≤ 40 := hX0.1.1
  have hX := hX0
  have hUL : ∀ j9 : Nat, j9 ∉ ([0, 5, 6, 7] : List Nat) → L j9 = L j9 := fun _ _ => rfl
  have hUI : ∀ j9 : Nat, j9 ∉ ([12] : List Nat) → I j9 = I j9 := fun _ _ => rfl
  have hUM : ∀ j9 : Nat, j9 ∉ ([8, 9] : List Nat) → M j9 = M j9 := fun _ _ => rfl
  have hUsi : ∀ s9 q9 : Nat, q9 ∉ ([6, 7, 8, 9, 10, 11, 21, 22] : List Nat) → si s9 q9 = si s9 q9 := fun _ _ _ => rfl
  have hUsa : ∀ s9 q9 : Nat, q9 ∉ ([3] : List Nat) → sa s9 q9 = sa s9 q9 := fun _ _ _ => rfl
  refine Met.ofW (cc := cX8_passDueTime) (maxL := 3) (ret := none) (by decide) rfl ?_
  intro p e9 s m args below meth c s₁ B hml hv
  obtain ⟨rfl, hsz, hP, hK, hD0, hN⟩ := hv
  have hx := B.exec
  have hb := B.bytes
  have hr := B.returns
  have hts := atoms_spec (ws := wq_x_passDueTime) B.pre
  have hown : s.vm.findClass RX8 = some m.cls := findClass_of_methodNamed B.named
  have hlocks := B.notSynchronized
  subst hsz
  have hD := hD0.self (sz := s.heap.size)
  generalize hAe : va_A (xW h a e cI cJ cO cE L I M J n cap fE sd si sa dl) s.heap.size = A at hD ⊢
  have hA : ∀ q : Nat, s.heap.size ≤ q → A q := fun q h => by rw [← hAe]; exact Or.inr h
  have hS : va_S A s.heap s.heap [] := va_S.rf
  have hl := lv_entry ([.ref h, .int (nI sv)]) (n := 3) (Nat.le_of_ble_eq_true rfl)
  rw [lg_entry_eq]
  generalize (lg_sl ([.ref h, .int (nI sv)]) ++ List.replicate (3 - (lg_sl ([.ref h, .int (nI sv)])).length) Slot.unset).toArray = ls at hl ⊢
  have hl : lv_has ls 3 [(0, .ref h), (1, .int (nI sv))] := hl
  refine lv_aload_n hx hb dX8_passDueTime_0 rfl (lv_at hl 0 rfl) ?_
  refine va_get (D := (dC, dI)) (ci := 9) (v := .ref (a 0)) (C := RX8) (T := TX8) (N := 14) hx hb hts in_x_passDueTime_X8 hown hK hP 0 rfl rfl 0 (by decide) (hts (.fieldLink RX8 10 "ServiceTree" "services" "Ljava/util/ArrayList;") (by decide +kernel)) (fun _ h9 => h9) rfl dX8_passDueTime_1 ?_
  refine lv_iload_n hx hb dX8_passDueTime_4 rfl (lv_at hl 1 rfl) ?_
  have hFc := mw_free hD hS hA
  refine va_callr (va_runV (As := [.int (nI sv)]) (rest := []) ⟨hx, hb, hml, hown, hts⟩ (c_x_get l dC dI h a e cI cJ cO cE L I M J n cap fE sd si sa dl (b) sv s.heap.size hX (by omega) (by omega)) (cwV 1 hts wc_x_passDueTime_x_get_86 rfl rfl rfl (by decide +kernel) ⟨Nat.le_of_ble_eq_true rfl, Nat.le_of_ble_eq_true rfl⟩) ⟨fun a9 U g mk q => by obtain ⟨q0, q1, qP, qK, qD, qN⟩ := q; exact ⟨q0, q1, qP, va_K.moved (u := U) (U := U.calling g mk a9) (Vm.Alike.refl U.vm) qK, qD, pw_N.same (u := U) (U := U.calling g mk a9) rfl qN⟩, va_recv hK hP (ci := 0) (q0 := 1) rfl rfl, fun U hU hW => ⟨rfl, by rw [hU], by rw [hU]; exact hP, va_K.moved hW.alike hK, hD.weaken (fun _ _ _ _ => trivial), pw_N.warm hW hN⟩⟩ rfl rfl hl.1 rfl (lv_room (Nat.le_of_ble_eq_true rfl)) dX8_passDueTime_5 ⟨Nat.le_of_ble_eq_true rfl, Nat.le_of_ble_eq_true rfl⟩) hS (fun q _ h => hFc q h) hFc (fun u r1 t H1 locs ht hvm hw hB hz1 hk1 hS => ?_)
  obtain ⟨hra, hB⟩ := hB
  replace hP := hB.1
  rw [ht] at hP
  replace hD : va_D A (xW h a e cI cJ cO cE L I M J n cap fE sd si sa dl) := hB.2.weaken (fun _ q _ h9 => hFc q.1 h9)
  clear hB
  generalize H1 = H at hP hS ⊢
  replace hP : va_P (dC, dI) vwCl (xW h a e cI cJ cO cE L I M J n cap fE sd si sa dl) H := hP
  subst hra
  refine va_castS hx hb hown (hts (.classLink RX8 65 RX7) (by decide +kernel)) (hK.1 8 _ rfl).2 (va_recv hK hP (ci := 8) (q0 := (22 + (6 * sv + 0))) rfl (xAt_0 h a e cI cJ cO cE L I M J n cap fE sd si sa dl (s := sv) (by omega))) dX8_passDueTime_8 ?_
  refine lv_astore_n (lv' := [(2, .ref (sd sv 0)), (0, .ref h), (1, .int (nI sv))]) hx hb dX8_passDueTime_11 rfl hl (by decide) rfl (fun ls hl => ?_)
  refine lv_aload_n hx hb dX8_passDueTime_12 rfl (lv_at hl 0 rfl) ?_
  refine va_getN (D := (dC, dI)) (ci := 8) (v := .int (si sv 6)) (C := RX7) (T := TX7) (N := 12) hx hb hts in_x_passDueTime_X7 hown hK hP (22 + (6 * sv + 0)) (xAt_0 h a e cI cJ cO cE L I M J n cap fE sd si sa dl (s := sv) (by omega)) rfl 6 (by decide) (va_Nw.use rfl (hN (.fieldLinkNest RX8 162 "ServiceTree$Service" "state" "I" "ServiceTree") (by decide +kernel))) (fun _ h9 => h9) rfl dX8_passDueTime_13 ?_
  obtain ⟨z2, hz2, ez2⟩ := hX.2.2.2.1 sv
  refine p1_topr (v := .int (nI z2)) (congrArg Value.int ez2) ?_
  rcases Classical.em (nI z2 = 1) with c3 | c3
  · refine lv_tableIn (tgt := 52) (off := 36) hx hb dX8_passDueTime_16 (by rw [c3]; decide) (by rw [c3]; decide) (by rw [c3]; rfl) (by decide) ?_
    refine lv_aload_n hx hb dX8_passDueTime_52 rfl (lv_at hl 1 rfl) ?_
    refine lv_iload_n hx hb dX8_passDueTime_53 rfl (lv_at hl 2 rfl) ?_
    refine lv_iconst (v := 2) hx hb dX8_passDueTime_54 (by decide) ?_
    have hFc := mw_free hD hS hA
    refine va_callv (va_runV (As := [.int (nI sv), .int 2]) (rest := []) ⟨hx, hb, hml, hown, hts⟩ (c_x_enter l dC dI h a e cI cJ cO cE L I M J n cap fE sd si sa dl (b) sv 2 H.size hX (by omega) (by omega) (by omega)) (cwV 2 hts wc_x_passDueTime_x_enter_249 rfl rfl rfl (by decide +kernel) ⟨Nat.le_of_ble_eq_true rfl, Nat.le_of_ble_eq_true rfl⟩) ⟨fun a9 U g mk q => by obtain ⟨q0, q1, qP, qK, qD, qN⟩ := q; exact ⟨q0, q1, qP, va_K.moved (u := U) (U := U.calling g mk a9) (Vm.Alike.refl U.vm) qK, qD, pw_N.same (u := U) (U := U.calling g mk a9) rfl qN⟩, va_recv hK hP (ci := 9) (q0 := 0) rfl rfl, fun U hU hW => ⟨rfl, by rw [hU], by rw [hU]; exact hP, va_K.moved hW.alike hK, hD.weaken (fun _ _ _ _ => trivial), pw_N.warm hW hN⟩⟩ rfl rfl hl.1 rfl (lv_room (Nat.le_of_ble_eq_true rfl)) dX8_passDueTime_55 ⟨Nat.le_of_ble_eq_true rfl, Nat.le_of_ble_eq_true rfl⟩) hS (fun q _ h => hFc q h) hFc (fun u t H1 locs ht hvm hw hB hz1 hk1 hS => ?_)
    obtain ⟨L5, I6, M7, si8, sa9⟩ := u
    replace hP := hB.1
    rw [ht] at hP
    replace hD : va_D A (xW h a e cI cJ cO cE L5 I6 M7 J n cap fE sd si8 sa9 dl) := hB.2.weaken (fun _ q _ h9 => hFc q.1 h9)
    clear hB
    generalize H1 = H at hP hS ⊢
    replace hP : va_P (dC, dI) vwCl (xW h a e cI cJ cO cE L5 I6 M7 J n cap fE sd si8 sa9 dl) H := hP
    obtain ⟨hwX, whUL, whUI, whUM, whUsi, whUsa, hw⟩ := hw
    replace hX : InvX n cap fE sd dl (b + 1) I6 J si8 := hwX
    replace hUL : ∀ j9 : Nat, j9 ∉ ([0, 5, 6, 7] : List Nat) → L5 j9 = L j9 := mw_tr (by decide) whUL hUL
    replace hUI : ∀ j9 : Nat, j9 ∉ ([12] : List Nat) → I6 j9 = I j9 := mw_tr (by decide) whUI hUI
    replace hUM : ∀ j9 : Nat, j9 ∉ ([8, 9] : List Nat) → M7 j9 = M j9 := mw_tr (by decide) whUM hUM
    replace hUsi : ∀ s9 q9 : Nat, q9 ∉ ([6, 7, 8, 9, 10, 11, 21, 22] : List Nat) → si8 s9 q9 = si s9 q9 := xw_tr2 (by decide) whUsi hUsi
    replace hUsa : ∀ s9 q9 : Nat, q9 ∉ ([3] : List Nat) → sa9 s9 q9 = sa s9 q9 := xw_tr2 (by decide) whUsa hUsa
    refine lv_goto (tgt := 102) hx hb dX8_passDueTime_58 (by decide) ?_
    exact W.vret hx hb hr (fun t ht hW => ⟨⟨(L5, I6, M7, si8, sa9), rfl, ⟨hX.mono (by omega), hUL, hUI, hUM, hUsi, hUsa, trivial⟩, by rw [ht]; exact hP, hD⟩, hS.F ht⟩) hS.2.2 dX8_passDueTime_102
  rcases Classical.em (nI z2 = 2) with c10 | c10
  · refine lv_tableIn (tgt := 70) (off := 54) hx hb dX8_passDueTime_16 (by rw [c10]; decide) (by rw [c10]; decide) (by rw [c10]; rfl) (by decide) ?_
    refine lv_aload_n hx hb dX8_passDueTime_70 rfl (lv_at hl 1 rfl) ?_
    refine lv_iload_n hx hb dX8_passDueTime_71 rfl (lv_at hl 2 rfl) ?_
    have hFc := mw_free hD hS hA
    refine va_callv (va_runV (As := [.int (nI sv)]) (rest := []) ⟨hx, hb, hml, hown, hts⟩ (c_x_endLife l dC dI h a e cI cJ cO cE L I M J n cap fE sd si sa dl (b) sv H.size hX (by omega) (by omega)) (cwV 1 hts wc_x_passDueTime_x_endLife_323 rfl rfl rfl (by decide +kernel) ⟨Nat.le_of_ble_eq_true rfl, Nat.le_of_ble_eq_true rfl⟩) ⟨fun a9 U g mk q => by obtain ⟨q0, q1, qP, qK, qD, qN⟩ := q; exact ⟨q0, q1, qP, va_K.moved (u := U) (U := U.calling g mk a9) (Vm.Alike.refl U.vm) qK, qD, pw_N.same (u := U) (U := U.calling g mk a9) rfl qN⟩, va_recv hK hP (ci := 9) (q0 := 0) rfl rfl, fun U hU hW => ⟨rfl, by rw [hU], by rw [hU]; exact hP, va_K.moved hW.alike hK, hD.weaken (fun _ _ _ _ => trivial), pw_N.warm hW hN⟩⟩ rfl rfl hl.1 rfl (lv_room (Nat.le_of_ble_eq_true rfl)) dX8_passDueTime_72 ⟨Nat.le_of_ble_eq_true rfl, Nat.le_of_ble_eq_true rfl⟩) hS (fun q _ h => hFc q h) hFc (fun u t H1 locs ht hvm hw hB hz1 hk1 hS => ?_)
    obtain ⟨L12, I13, M14, si15, sa16⟩ := u
    replace hP := hB.1
    rw [ht] at hP
    replace hD : va_D A (xW h a e cI cJ cO cE L12 I13 M14 J n cap fE sd si15 sa16 dl) := hB.2.weaken (fun _ q _ h9 => hFc q.1 h9)
    clear hB
    generalize H1 = H at hP hS ⊢
    replace hP : va_P (dC, dI) vwCl (xW h a e cI cJ cO cE L12 I13 M14 J n cap fE sd si15 sa16 dl) H := hP
    obtain ⟨hwX, whUL, whUI, whUM, whUsi, whUsa, hw⟩ := hw
    replace hX : InvX n cap fE sd dl (b + 1) I13 J si15 := hwX
    replace hUL : ∀ j9 : Nat, j9 ∉ ([0, 5, 6, 7] : List Nat) → L12 j9 = L j9 := mw_tr (by decide) whUL hUL
    replace hUI : ∀ j9 : Nat, j9 ∉ ([12] : List Nat) → I13 j9 = I j9 := mw_tr (by decide) whUI hUI
    replace hUM : ∀ j9 : Nat, j9 ∉ ([8, 9] : List Nat) → M14 j9 = M j9 := mw_tr (by decide) whUM hUM
    replace hUsi : ∀ s9 q9 : Nat, q9 ∉ ([6, 7, 8, 9, 10, 11, 21, 22] : List Nat) → si15 s9 q9 = si s9 q9 := xw_tr2 (by decide) whUsi hUsi
    replace hUsa : ∀ s9 q9 : Nat, q9 ∉ ([3] : List Nat) → sa16 s9 q9 = sa s9 q9 := xw_tr2 (by decide) whUsa hUsa
    refine lv_goto (tgt := 102) hx hb dX8_passDueTime_75 (by decide) ?_
    exact W.vret hx hb hr (fun t ht hW => ⟨⟨(L12, I13, M14, si15, sa16), rfl, ⟨hX.mono (by omega), hUL, hUI, hUM, hUsi, hUsa, trivial⟩, by rw [ht]; exact hP, hD⟩, hS.F ht⟩) hS.2.2 dX8_passDueTime_102
  rcases Classical.em (nI z2 = 3) with c17 | c17
  · refine lv_tableIn (tgt := 61) (off := 45) hx hb dX8_passDueTime_16 (by rw [c17]; decide) (by rw [c17]; decide) (by rw [c17]; rfl) (by decide) ?_
    refine lv_aload_n hx hb dX8_passDueTime_61 rfl (lv_at hl 1 rfl) ?_
    refine lv_iload_n hx hb dX8_passDueTime_62 rfl (lv_at hl 2 rfl) ?_
    refine lv_iconst (v := 0) hx hb dX8_passDueTime_63 (by decide) ?_
    have hFc := mw_free hD hS hA
    refine va_callv (va_runV (As := [.int (nI sv), .int 0]) (rest := []) ⟨hx, hb, hml, hown, hts⟩ (c_x_enter l dC dI h a e cI cJ cO cE L I M J n cap fE sd si sa dl (b) sv 0 H.size hX (by omega) (by omega) (by omega)) (cwV 2 hts wc_x_passDueTime_x_enter_249 rfl rfl rfl (by decide +kernel) ⟨Nat.le_of_ble_eq_true rfl, Nat.le_of_ble_eq_true rfl⟩) ⟨fun a9 U g mk q => by obtain ⟨q0, q1, qP, qK, qD, qN⟩ := q; exact ⟨q0, q1, qP, va_K.moved (u := U) (U := U.calling g mk a9) (Vm.Alike.refl U.vm) qK, qD, pw_N.same (u := U) (U := U.calling g mk a9) rfl qN⟩, va_recv hK hP (ci := 9) (q0 := 0) rfl rfl, fun U hU hW => ⟨rfl, by rw [hU], by rw [hU]; exact hP, va_K.moved hW.alike hK, hD.weaken (fun _ _ _ _ => trivial), pw_N.warm hW hN⟩⟩ rfl rfl hl.1 rfl (lv_room (Nat.le_of_ble_eq_true rfl)) dX8_passDueTime_64 ⟨Nat.le_of_ble_eq_true rfl, Nat.le_of_ble_eq_true rfl⟩) hS (fun q _ h => hFc q h) hFc (fun u t H1 locs ht hvm hw hB hz1 hk1 hS => ?_)
    obtain ⟨L19, I20, M21, si22, sa23⟩ := u
    replace hP := hB.1
    rw [ht] at hP
    replace hD : va_D A (xW h a e cI cJ cO cE L19 I20 M21 J n cap fE sd si22 sa23 dl) := hB.2.weaken (fun _ q _ h9 => hFc q.1 h9)
    clear hB
    generalize H1 = H at hP hS ⊢
    replace hP : va_P (dC, dI) vwCl (xW h a e cI cJ cO cE L19 I20 M21 J n cap fE sd si22 sa23 dl) H := hP
    obtain ⟨hwX, whUL, whUI, whUM, whUsi, whUsa, hw⟩ := hw
    replace hX : InvX n cap fE sd dl (b + 1) I20 J si22 := hwX
    replace hUL : ∀ j9 : Nat, j9 ∉ ([0, 5, 6, 7] : List Nat) → L19 j9 = L j9 := mw_tr (by decide) whUL hUL
    replace hUI : ∀ j9 : Nat, j9 ∉ ([12] : List Nat) → I20 j9 = I j9 := mw_tr (by decide) whUI hUI
    replace hUM : ∀ j9 : Nat, j9 ∉ ([8, 9] : List Nat) → M21 j9 = M j9 := mw_tr (by decide) whUM hUM
    replace hUsi : ∀ s9 q9 : Nat, q9 ∉ ([6, 7, 8, 9, 10, 11, 21, 22] : List Nat) → si22 s9 q9 = si s9 q9 := xw_tr2 (by decide) whUsi hUsi
    replace hUsa : ∀ s9 q9 : Nat, q9 ∉ ([3] : List Nat) → sa23 s9 q9 = sa s9 q9 := xw_tr2 (by decide) whUsa hUsa
    refine lv_goto (tgt := 102) hx hb dX8_passDueTime_67 (by decide) ?_
    exact W.vret hx hb hr (fun t ht hW => ⟨⟨(L19, I20, M21, si22, sa23), rfl, ⟨hX.mono (by omega), hUL, hUI, hUM, hUsi, hUsa, trivial⟩, by rw [ht]; exact hP, hD⟩, hS.F ht⟩) hS.2.2 dX8_passDueTime_102
  rcases Classical.em (nI z2 = 4) with c24 | c24
  · refine lv_tableIn (tgt := 102) (off := 86) hx hb dX8_passDueTime_16 (by rw [c24]; decide) (by rw [c24]; decide) (by rw [c24]; rfl) (by decide) ?_
    exact W.vret hx hb hr (fun t ht hW => ⟨⟨(L, I, M, si, sa), rfl, ⟨hX.mono (by omega), hUL, hUI, hUM, hUsi, hUsa, trivial⟩, by rw [ht]; exact hP, hD⟩, hS.F ht⟩) hS.2.2 dX8_passDueTime_102
  rcases Classical.em (nI z2 = 5) with c25 | c25
  · refine lv_tableIn (tgt := 78) (off := 62) hx hb dX8_passDueTime_16 (by rw [c25]; decide) (by rw [c25]; decide) (by rw [c25]; rfl) (by decide) ?_
    refine lv_aload_n hx hb dX8_passDueTime_78 rfl (lv_at hl 1 rfl) ?_
    refine lv_iload_n hx hb dX8_passDueTime_79 rfl (lv_at hl 2 rfl) ?_
    refine lv_aload_n hx hb dX8_passDueTime_80 rfl (lv_at hl 1 rfl) ?_
    refine lv_iload_n hx hb dX8_passDueTime_81 rfl (lv_at hl 2 rfl) ?_
    have hFc := mw_free hD hS hA
    refine va_calli (va_runV (As := [.int (nI sv)]) (rest := [.int (nI sv), .ref h]) ⟨hx, hb, hml, hown, hts⟩ (c_x_canWake l dC dI h a e cI cJ cO cE L I M J n cap fE sd si sa dl (b) sv H.size hX (by omega) (by omega)) (cwV 1 hts wc_x_passDueTime_x_canWake_326 rfl rfl rfl (by decide +kernel) ⟨Nat.le_of_ble_eq_true rfl, Nat.le_of_ble_eq_true rfl⟩) ⟨fun a9 U g mk q => by obtain ⟨q0, q1, qP, qK, qD, qN⟩ := q; exact ⟨q0, q1, qP, va_K.moved (u := U) (U := U.calling g mk a9) (Vm.Alike.refl U.vm) qK, qD, pw_N.same (u := U) (U := U.calling g mk a9) rfl qN⟩, va_recv hK hP (ci := 9) (q0 := 0) rfl rfl, fun U hU hW => ⟨rfl, by rw [hU], by rw [hU]; exact hP, va_K.moved hW.alike hK, hD.weaken (fun _ _ _ _ => trivial), pw_N.warm hW hN⟩⟩ rfl rfl hl.1 rfl (lv_room (Nat.le_of_ble_eq_true rfl)) dX8_passDueTime_82 ⟨Nat.le_of_ble_eq_true rfl, Nat.le_of_ble_eq_true rfl⟩) hS (fun q _ h => hFc q h) hFc (fun r26 u t H1 locs ht hvm hw hB hz1 hk1 hS => ?_)
    replace hP := hB.1
    rw [ht] at hP
    replace hD : va_D A (xW h a e cI cJ cO cE L I M J n cap fE sd si sa dl) := hB.2.weaken (fun _ q _ h9 => hFc q.1 h9)
    clear hB
    generalize H1 = H at hP hS ⊢
    replace hP : va_P (dC, dI) vwCl (xW h a e cI cJ cO cE L I M J n cap fE sd si sa dl) H := hP
    have br26 := hw
    refine lv_if_eq (tgt := 95) hx hb dX8_passDueTime_85 (by decide) (fun c27 => ?_) (fun c27 => ?_)
    · refine lv_iconst (v := 4) hx hb dX8_passDueTime_95 (by decide) ?_
      have hFc := mw_free hD hS hA
      refine va_callv (va_runV (As := [.int (nI sv), .int 4]) (rest := []) ⟨hx, hb, hml, hown, hts⟩ (c_x_enter l dC dI h a e cI cJ cO cE L I M J n cap fE sd si sa dl (b) sv 4 H.size hX (by omega) (by omega) (by omega)) (cwV 2 hts wc_x_passDueTime_x_enter_249 rfl rfl rfl (by decide +kernel) ⟨Nat.le_of_ble_eq_true rfl, Nat.le_of_ble_eq_true rfl⟩) ⟨fun a9 U g mk q => by obtain ⟨q0, q1, qP, qK, qD, qN⟩ := q; exact ⟨q0, q1, qP, va_K.moved (u := U) (U := U.calling g mk a9) (Vm.Alike.refl U.vm) qK, qD, pw_N.same (u := U) (U := U.calling g mk a9) rfl qN⟩, va_recv hK hP (ci := 9) (q0 := 0) rfl rfl, fun U hU hW => ⟨rfl, by rw [hU], by rw [hU]; exact hP, va_K.moved hW.alike hK, hD.weaken (fun _ _ _ _ => trivial), pw_N.warm hW hN⟩⟩ rfl rfl hl.1 rfl (lv_room (Nat.le_of_ble_eq_true rfl)) dX8_passDueTime_96 ⟨Nat.le_of_ble_eq_true rfl, Nat.le_of_ble_eq_true rfl⟩) hS (fun q _ h => hFc q h) hFc (fun u t H1 locs ht hvm hw hB hz1 hk1 hS => ?_)
      obtain ⟨L29, I30, M31, si32, sa33⟩ := u
      replace hP := hB.1
      rw [ht] at hP
      replace hD : va_D A (xW h a e cI cJ cO cE L29 I30 M31 J n cap fE sd si32 sa33 dl) := hB.2.weaken (fun _ q _ h9 => hFc q.1 h9)
      clear hB
      generalize H1 = H at hP hS ⊢
      replace hP : va_P (dC, dI) vwCl (xW h a e cI cJ cO cE L29 I30 M31 J n cap fE sd si32 sa33 dl) H := hP
      obtain ⟨hwX, whUL, whUI, whUM, whUsi, whUsa, hw⟩ := hw
      replace hX : InvX n cap fE sd dl (b + 1) I30 J si32 := hwX
      replace hUL : ∀ j9 : Nat, j9 ∉ ([0, 5, 6, 7] : List Nat) → L29 j9 = L j9 := mw_tr (by decide) whUL hUL
      replace hUI : ∀ j9 : Nat, j9 ∉ ([12] : List Nat) → I30 j9 = I j9 := mw_tr (by decide) whUI hUI
      replace hUM : ∀ j9 : Nat, j9 ∉ ([8, 9] : List Nat) → M31 j9 = M j9 := mw_tr (by decide) whUM hUM
      replace hUsi : ∀ s9 q9 : Nat, q9 ∉ ([6, 7, 8, 9, 10, 11, 21, 22] : List Nat) → si32 s9 q9 = si s9 q9 := xw_tr2 (by decide) whUsi hUsi
      replace hUsa : ∀ s9 q9 : Nat, q9 ∉ ([3] : List Nat) → sa33 s9 q9 = sa s9 q9 := xw_tr2 (by decide) whUsa hUsa
      refine lv_goto (tgt := 102) hx hb dX8_passDueTime_99 (by decide) ?_
      exact W.vret hx hb hr (fun t ht hW => ⟨⟨(L29, I30, M31, si32, sa33), rfl, ⟨hX.mono (by omega), hUL, hUI, hUM, hUsi, hUsa, trivial⟩, by rw [ht]; exact hP, hD⟩, hS.F ht⟩) hS.2.2 dX8_passDueTime_102
    · refine lv_aload_n hx hb dX8_passDueTime_88 rfl (lv_at hl 0 rfl) ?_
      have hFc := mw_free hD hS hA
      refine va_calli (va_runV (As := []) (rest := [.int (nI sv), .ref h]) ⟨hx, hb, hml, hown, hts⟩ (c_x_fss l dC dI h a e cI cJ cO cE L I M J n cap fE sd si sa dl (b) sv H.size hX (by omega) (by omega)) (cwV 0 hts wc_x_passDueTime_x_fss_305 rfl rfl rfl (by decide +kernel) ⟨Nat.le_of_ble_eq_true rfl, Nat.le_of_ble_eq_true rfl⟩) ⟨fun a9 U g mk q => by obtain ⟨q0, q1, qP, qK, qD, qN⟩ := q; exact ⟨q0, q1, qP, va_K.moved (u := U) (U := U.calling g mk a9) (Vm.Alike.refl U.vm) qK, qD, pw_N.same (u := U) (U := U.calling g mk a9) rfl qN⟩, va_recv hK hP (ci := 8) (q0 := (22 + (6 * sv + 0))) rfl (xAt_0 h a e cI cJ cO cE L I M J n cap fE sd si sa dl (s := sv) (by omega)), fun U hU hW => ⟨rfl, by rw [hU], by rw [hU]; exact hP, va_K.moved hW.alike hK, hD.weaken (fun _ _ _ _ => trivial), pw_N.warm hW hN⟩⟩ rfl rfl hl.1 rfl (lv_room (Nat.le_of_ble_eq_true rfl)) dX8_passDueTime_89 ⟨Nat.le_of_ble_eq_true rfl, Nat.le_of_ble_eq_true rfl⟩) hS (fun q _ h => hFc q h) hFc (fun r34 u t H1 locs ht hvm hw hB hz1 hk1 hS => ?_)
      replace hP := hB.1
      rw [ht] at hP
      replace hD : va_D A (xW h a e cI cJ cO cE L I M J n cap fE sd si sa dl) := hB.2.weaken (fun _ q _ h9 => hFc q.1 h9)
      clear hB
      generalize H1 = H at hP hS ⊢
      replace hP : va_P (dC, dI) vwCl (xW h a e cI cJ cO cE L I M J n cap fE sd si sa dl) H := hP
      obtain ⟨j35, hj35, rfl⟩ := hw
      refine lv_goto (tgt := 96) hx hb dX8_passDueTime_92 (by decide) ?_
      have hFc := mw_free hD hS hA
      refine va_callv (va_runV (As := [.int (nI sv), .int (nI j35)]) (rest := []) ⟨hx, hb, hml, hown, hts⟩ (c_x_enter l dC dI h a e cI cJ cO cE L I M J n cap fE sd si sa dl (b) sv j35 H.size hX (by omega) (by omega) (by omega)) (cwV 2 hts wc_x_passDueTime_x_enter_249 rfl rfl rfl (by decide +kernel) ⟨Nat.le_of_ble_eq_true rfl, Nat.le_of_ble_eq_true rfl⟩) ⟨fun a9 U g mk q => by obtain ⟨q0, q1, qP, qK, qD, qN⟩ := q; exact ⟨q0, q1, qP, va_K.moved (u := U) (U := U.calling g mk a9) (Vm.Alike.refl U.vm) qK, qD, pw_N.same (u := U) (U := U.calling g mk a9) rfl qN⟩, va_recv hK hP (ci := 9) (q0 := 0) rfl rfl, fun U hU hW => ⟨rfl, by rw [hU], by rw [hU]; exact hP, va_K.moved hW.alike hK, hD.weaken (fun _ _ _ _ => trivial), pw_N.warm hW hN⟩⟩ rfl rfl hl.1 rfl (lv_room (Nat.le_of_ble_eq_true rfl)) dX8_passDueTime_96 ⟨Nat.le_of_ble_eq_true rfl, Nat.le_of_ble_eq_true rfl⟩) hS (fun q _ h => hFc q h) hFc (fun u t H1 locs ht hvm hw hB hz1 hk1 hS => ?_)
      obtain ⟨L37, I38, M39, si40, sa41⟩ := u
      replace hP := hB.1
      rw [ht] at hP
      replace hD : va_D A (xW h a e cI cJ cO cE L37 I38 M39 J n cap fE sd si40 sa41 dl) := hB.2.weaken (fun _ q _ h9 => hFc q.1 h9)
      clear hB
      generalize H1 = H at hP hS ⊢
      replace hP : va_P (dC, dI) vwCl (xW h a e cI cJ cO cE L37 I38 M39 J n cap fE sd si40 sa41 dl) H := hP
      obtain ⟨hwX, whUL, whUI, whUM, whUsi, whUsa, hw⟩ := hw
      replace hX : InvX n cap fE sd dl (b + 1) I38 J si40 := hwX
      replace hUL : ∀ j9 : Nat, j9 ∉ ([0, 5, 6, 7] : List Nat) → L37 j9 = L j9 := mw_tr (by decide) whUL hUL
      replace hUI : ∀ j9 : Nat, j9 ∉ ([12] : List Nat) → I38 j9 = I j9 := mw_tr (by decide) whUI hUI
      replace hUM : ∀ j9 : Nat, j9 ∉ ([8, 9] : List Nat) → M39 j9 = M j9 := mw_tr (by decide) whUM hUM
      replace hUsi : ∀ s9 q9 : Nat, q9 ∉ ([6, 7, 8, 9, 10, 11, 21, 22] : List Nat) → si40 s9 q9 = si s9 q9 := xw_tr2 (by decide) whUsi hUsi
      replace hUsa : ∀ s9 q9 : Nat, q9 ∉ ([3] : List Nat) → sa41 s9 q9 = sa s9 q9 := xw_tr2 (by decide) whUsa hUsa
      refine lv_goto (tgt := 102) hx hb dX8_passDueTime_99 (by decide) ?_
      exact W.vret hx hb hr (fun t ht hW => ⟨⟨(L37, I38, M39, si40, sa41), rfl, ⟨hX.mono (by omega), hUL, hUI, hUM, hUsi, hUsa, trivial⟩, by rw [ht]; exact hP, hD⟩, hS.F ht⟩) hS.2.2 dX8_passDueTime_102
  refine lv_tableOut (tgt := 102) hx hb dX8_passDueTime_16 (by have k0 := c3; have k1 := c10; have k2 := c17; have k3 := c24; have k4 := c25; simp only [p1_le, p1_lt, p1_eq, p1_m6, p1_m1, p1_0, p1_1, p1_2, p1_3, p1_4, p1_5, p1_6, p1_7, p1_8, p1_9, p1_10, p1_11, p1_12, p1_13, p1_14, p1_15, p1_16, p1_17, p1_18, p1_19, p1_20, p1_40, p1_50, p1_200, p1_1000] at k0 k1 k2 k3 k4 ⊢; omega) (by decide) ?_
  exact W.vret hx hb hr (fun t ht hW => ⟨⟨(L, I, M, si, sa), rfl, ⟨hX.mono (by omega), hUL, hUI, hUM, hUsi, hUsa, trivial⟩, by rw [ht]; exact hP, hD⟩, hS.F ht⟩) hS.2.2 dX8_passDueTime_102
