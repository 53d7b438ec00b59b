theorem dX1_weigh_0 : decode cX1_weigh 0 = .ok (.lload_n 3, 1) := by decide +kernel
theorem dX1_weigh_1 : decode cX1_weigh 1 = .ok (.lload 5, 2) := by decide +kernel
theorem dX1_weigh_3 : decode cX1_weigh 3 = .ok (.lor, 1) := by decide +kernel
theorem dX1_weigh_4 : decode cX1_weigh 4 = .ok (.lstore 7, 2) := by decide +kernel
theorem dX1_weigh_6 : decode cX1_weigh 6 = .ok (.aload_n 0, 1) := by decide +kernel
theorem dX1_weigh_7 : decode cX1_weigh 7 = .ok (.lconst 0, 1) := by decide +kernel
theorem dX1_weigh_8 : decode cX1_weigh 8 = .ok (.putfield 15, 3) := by decide +kernel
theorem dX1_weigh_11 : decode cX1_weigh 11 = .ok (.iload_n 1, 1) := by decide +kernel
theorem dX1_weigh_12 : decode cX1_weigh 12 = .ok (.iconst 1, 1) := by decide +kernel
theorem dX1_weigh_13 : decode cX1_weigh 13 = .ok (.if_icmp .ne 26, 3) := by decide +kernel
theorem dX1_weigh_16 : decode cX1_weigh 16 = .ok (.aload_n 0, 1) := by decide +kernel
theorem dX1_weigh_17 : decode cX1_weigh 17 = .ok (.aload_n 0, 1) := by decide +kernel
theorem dX1_weigh_18 : decode cX1_weigh 18 = .ok (.getfield 9, 3) := by decide +kernel
theorem dX1_weigh_21 : decode cX1_weigh 21 = .ok (.iload_n 2, 1) := by decide +kernel
theorem dX1_weigh_22 : decode cX1_weigh 22 = .ok (.invokestatic 19, 3) := by decide +kernel
theorem dX1_weigh_25 : decode cX1_weigh 25 = .ok (.lload 7, 2) := by decide +kernel
theorem dX1_weigh_27 : decode cX1_weigh 27 = .ok (.invokevirtual 23, 3) := by decide +kernel
theorem dX1_weigh_30 : decode cX1_weigh 30 = .ok (.lload 7, 2) := by decide +kernel
theorem dX1_weigh_32 : decode cX1_weigh 32 = .ok (.land, 1) := by decide +kernel
theorem dX1_weigh_33 : decode cX1_weigh 33 = .ok (.putfield 29, 3) := by decide +kernel
theorem dX1_weigh_36 : decode cX1_weigh 36 = .ok (.goto 99, 3) := by decide +kernel
theorem dX1_weigh_39 : decode cX1_weigh 39 = .ok (.aload_n 0, 1) := by decide +kernel
theorem dX1_weigh_40 : decode cX1_weigh 40 = .ok (.iload_n 2, 1) := by decide +kernel
theorem dX1_weigh_41 : decode cX1_weigh 41 = .ok (.lload_n 3, 1) := by decide +kernel
theorem dX1_weigh_42 : decode cX1_weigh 42 = .ok (.ldc2_w 32, 3) := by decide +kernel
theorem dX1_weigh_45 : decode cX1_weigh 45 = .ok (.lxor, 1) := by decide +kernel
theorem dX1_weigh_46 : decode cX1_weigh 46 = .ok (.invokevirtual 34, 3) := by decide +kernel
theorem dX1_weigh_49 : decode cX1_weigh 49 = .ok (.istore 9, 2) := by decide +kernel
theorem dX1_weigh_51 : decode cX1_weigh 51 = .ok (.iload 9, 2) := by decide +kernel
theorem dX1_weigh_53 : decode cX1_weigh 53 = .ok (.ifCond .ge 6, 3) := by decide +kernel
theorem dX1_weigh_56 : decode cX1_weigh 56 = .ok (.iload 9, 2) := by decide +kernel
theorem dX1_weigh_58 : decode cX1_weigh 58 = .ok (.ireturn, 1) := by decide +kernel
theorem dX1_weigh_59 : decode cX1_weigh 59 = .ok (.aload_n 0, 1) := by decide +kernel
theorem dX1_weigh_60 : decode cX1_weigh 60 = .ok (.lload_n 3, 1) := by decide +kernel
theorem dX1_weigh_61 : decode cX1_weigh 61 = .ok (.ldc2_w 32, 3) := by decide +kernel
theorem dX1_weigh_64 : decode cX1_weigh 64 = .ok (.lxor, 1) := by decide +kernel
theorem dX1_weigh_65 : decode cX1_weigh 65 = .ok (.invokevirtual 38, 3) := by decide +kernel
theorem dX1_weigh_68 : decode cX1_weigh 68 = .ok (.aload_n 0, 1) := by decide +kernel
theorem dX1_weigh_69 : decode cX1_weigh 69 = .ok (.getfield 9, 3) := by decide +kernel
theorem dX1_weigh_72 : decode cX1_weigh 72 = .ok (.iconst 3, 1) := by decide +kernel
theorem dX1_weigh_73 : decode cX1_weigh 73 = .ok (.aload_n 0, 1) := by decide +kernel
theorem dX1_weigh_74 : decode cX1_weigh 74 = .ok (.getfield 15, 3) := by decide +kernel
theorem dX1_weigh_77 : decode cX1_weigh 77 = .ok (.invokevirtual 42, 3) := by decide +kernel
theorem dX1_weigh_80 : decode cX1_weigh 80 = .ok (.iload_n 1, 1) := by decide +kernel
theorem dX1_weigh_81 : decode cX1_weigh 81 = .ok (.iconst 2, 1) := by decide +kernel
theorem dX1_weigh_82 : decode cX1_weigh 82 = .ok (.if_icmp .ne 14, 3) := by decide +kernel
theorem dX1_weigh_85 : decode cX1_weigh 85 = .ok (.aload_n 0, 1) := by decide +kernel
theorem dX1_weigh_86 : decode cX1_weigh 86 = .ok (.getfield 15, 3) := by decide +kernel
theorem dX1_weigh_89 : decode cX1_weigh 89 = .ok (.ldc2_w 32, 3) := by decide +kernel
theorem dX1_weigh_92 : decode cX1_weigh 92 = .ok (.lxor, 1) := by decide +kernel
theorem dX1_weigh_93 : decode cX1_weigh 93 = .ok (.goto 4, 3) := by decide +kernel
theorem dX1_weigh_96 : decode cX1_weigh 96 = .ok (.lconst 0, 1) := by decide +kernel
theorem dX1_weigh_97 : decode cX1_weigh 97 = .ok (.lor, 1) := by decide +kernel
theorem dX1_weigh_98 : decode cX1_weigh 98 = .ok (.lstore 10, 2) := by decide +kernel
theorem dX1_weigh_100 : decode cX1_weigh 100 = .ok (.aload_n 0, 1) := by decide +kernel
theorem dX1_weigh_101 : decode cX1_weigh 101 = .ok (.aload_n 0, 1) := by decide +kernel
theorem dX1_weigh_102 : decode cX1_weigh 102 = .ok (.getfield 9, 3) := by decide +kernel
theorem dX1_weigh_105 : decode cX1_weigh 105 = .ok (.lload 10, 2) := by decide +kernel
theorem dX1_weigh_107 : decode cX1_weigh 107 = .ok (.lload 7, 2) := by decide +kernel
theorem dX1_weigh_109 : decode cX1_weigh 109 = .ok (.land, 1) := by decide +kernel
theorem dX1_weigh_110 : decode cX1_weigh 110 = .ok (.lload 7, 2) := by decide +kernel
theorem dX1_weigh_112 : decode cX1_weigh 112 = .ok (.invokevirtual 23, 3) := by decide +kernel
theorem dX1_weigh_115 : decode cX1_weigh 115 = .ok (.putfield 29, 3) := by decide +kernel
theorem dX1_weigh_118 : decode cX1_weigh 118 = .ok (.aload_n 0, 1) := by decide +kernel
theorem dX1_weigh_119 : decode cX1_weigh 119 = .ok (.getfield 29, 3) := by decide +kernel
theorem dX1_weigh_122 : decode cX1_weigh 122 = .ok (.aload_n 0, 1) := by decide +kernel
theorem dX1_weigh_123 : decode cX1_weigh 123 = .ok (.getfield 15, 3) := by decide +kernel
theorem dX1_weigh_126 : decode cX1_weigh 126 = .ok (.land, 1) := by decide +kernel
theorem dX1_weigh_127 : decode cX1_weigh 127 = .ok (.lconst 0, 1) := by decide +kernel
theorem dX1_weigh_128 : decode cX1_weigh 128 = .ok (.lcmp, 1) := by decide +kernel
theorem dX1_weigh_129 : decode cX1_weigh 129 = .ok (.ifCond .eq 6, 3) := by decide +kernel
theorem dX1_weigh_132 : decode cX1_weigh 132 = .ok (.bipush (-4), 2) := by decide +kernel
theorem dX1_weigh_134 : decode cX1_weigh 134 = .ok (.ireturn, 1) := by decide +kernel
theorem dX1_weigh_135 : decode cX1_weigh 135 = .ok (.aload_n 0, 1) := by decide +kernel
theorem dX1_weigh_136 : decode cX1_weigh 136 = .ok (.aload_n 0, 1) := by decide +kernel
theorem dX1_weigh_137 : decode cX1_weigh 137 = .ok (.getfield 15, 3) := by decide +kernel
theorem dX1_weigh_140 : decode cX1_weigh 140 = .ok (.lload_n 3, 1) := by decide +kernel
theorem dX1_weigh_141 : decode cX1_weigh 141 = .ok (.ldc2_w 32, 3) := by decide +kernel
theorem dX1_weigh_144 : decode cX1_weigh 144 = .ok (.lxor, 1) := by decide +kernel
theorem dX1_weigh_145 : decode cX1_weigh 145 = .ok (.land, 1) := by decide +kernel
theorem dX1_weigh_146 : decode cX1_weigh 146 = .ok (.putfield 46, 3) := by decide +kernel
theorem dX1_weigh_149 : decode cX1_weigh 149 = .ok (.aload_n 0, 1) := by decide +kernel
theorem dX1_weigh_150 : decode cX1_weigh 150 = .ok (.aload_n 0, 1) := by decide +kernel
theorem dX1_weigh_151 : decode cX1_weigh 151 = .ok (.getfield 9, 3) := by decide +kernel
theorem dX1_weigh_154 : decode cX1_weigh 154 = .ok (.aload_n 0, 1) := by decide +kernel
theorem dX1_weigh_155 : decode cX1_weigh 155 = .ok (.getfield 29, 3) := by decide +kernel
theorem dX1_weigh_158 : decode cX1_weigh 158 = .ok (.invokevirtual 49, 3) := by decide +kernel
theorem dX1_weigh_161 : decode cX1_weigh 161 = .ok (.putfield 53, 3) := by decide +kernel
theorem dX1_weigh_164 : decode cX1_weigh 164 = .ok (.aload_n 0, 1) := by decide +kernel
theorem dX1_weigh_165 : decode cX1_weigh 165 = .ok (.getfield 53, 3) := by decide +kernel
theorem dX1_weigh_168 : decode cX1_weigh 168 = .ok (.ifCond .le 8, 3) := by decide +kernel
theorem dX1_weigh_171 : decode cX1_weigh 171 = .ok (.bipush (-5), 2) := by decide +kernel
theorem dX1_weigh_173 : decode cX1_weigh 173 = .ok (.goto 15, 3) := by decide +kernel
theorem dX1_weigh_176 : decode cX1_weigh 176 = .ok (.aload_n 0, 1) := by decide +kernel
theorem dX1_weigh_177 : decode cX1_weigh 177 = .ok (.getfield 46, 3) := by decide +kernel
theorem dX1_weigh_180 : decode cX1_weigh 180 = .ok (.aload_n 0, 1) := by decide +kernel
theorem dX1_weigh_181 : decode cX1_weigh 181 = .ok (.getfield 29, 3) := by decide +kernel
theorem dX1_weigh_184 : decode cX1_weigh 184 = .ok (.lor, 1) := by decide +kernel
theorem dX1_weigh_185 : decode cX1_weigh 185 = .ok (.invokestatic 57, 3) := by decide +kernel
theorem dX1_weigh_188 : decode cX1_weigh 188 = .ok (.ireturn, 1) := by decide +kernel
theorem dX2_tell_0 : decode cX2_tell 0 = .ok (.iload_n 1, 1) := by decide +kernel
theorem dX2_tell_1 : decode cX2_tell 1 = .ok (.ifCond .lt 23, 3) := by decide +kernel
theorem dX2_tell_4 : decode cX2_tell 4 = .ok (.iload_n 1, 1) := by decide +kernel
theorem dX2_tell_5 : decode cX2_tell 5 = .ok (.aload_n 0, 1) := by decide +kernel
theorem dX2_tell_6 : decode cX2_tell 6 = .ok (.getfield 15, 3) := by decide +kernel
theorem dX2_tell_9 : decode cX2_tell 9 = .ok (.if_icmp .ge 15, 3) := by decide +kernel
theorem dX2_tell_12 : decode cX2_tell 12 = .ok (.iload_n 1, 1) := by decide +kernel
theorem dX2_tell_13 : decode cX2_tell 13 = .ok (.aload_n 0, 1) := by decide +kernel
theorem dX2_tell_14 : decode cX2_tell 14 = .ok (.getfield 15, 3) := by decide +kernel
theorem dX2_tell_17 : decode cX2_tell 17 = .ok (.sipush 2000, 3) := by decide +kernel
theorem dX2_tell_20 : decode cX2_tell 20 = .ok (.isub, 1) := by decide +kernel
theorem dX2_tell_21 : decode cX2_tell 21 = .ok (.if_icmp .ge 5, 3) := by decide +kernel
theorem dX2_tell_24 : decode cX2_tell 24 = .ok (.iconst (-1), 1) := by decide +kernel
theorem dX2_tell_25 : decode cX2_tell 25 = .ok (.ireturn, 1) := by decide +kernel
theorem dX2_tell_26 : decode cX2_tell 26 = .ok (.aload_n 0, 1) := by decide +kernel
theorem dX2_tell_27 : decode cX2_tell 27 = .ok (.getfield 9, 3) := by decide +kernel
theorem dX2_tell_30 : decode cX2_tell 30 = .ok (.iload_n 1, 1) := by decide +kernel
theorem dX2_tell_31 : decode cX2_tell 31 = .ok (.sipush 2000, 3) := by decide +kernel
theorem dX2_tell_34 : decode cX2_tell 34 = .ok (.irem, 1) := by decide +kernel
theorem dX2_tell_35 : decode cX2_tell 35 = .ok (.laload, 1) := by decide +kernel
theorem dX2_tell_36 : decode cX2_tell 36 = .ok (.lstore_n 3, 1) := by decide +kernel
theorem dX2_tell_37 : decode cX2_tell 37 = .ok (.iload_n 2, 1) := by decide +kernel
theorem dX2_tell_38 : decode cX2_tell 38 = .ok (.tableswitch 51 0 2 #[26, 33, 44], 26) := by decide +kernel
theorem dX2_tell_64 : decode cX2_tell 64 = .ok (.lload_n 3, 1) := by decide +kernel
theorem dX2_tell_65 : decode cX2_tell 65 = .ok (.ldc2_w 25, 3) := by decide +kernel
theorem dX2_tell_68 : decode cX2_tell 68 = .ok (.ldiv, 1) := by decide +kernel
theorem dX2_tell_69 : decode cX2_tell 69 = .ok (.l2i, 1) := by decide +kernel
theorem dX2_tell_70 : decode cX2_tell 70 = .ok (.ireturn, 1) := by decide +kernel
theorem dX2_tell_71 : decode cX2_tell 71 = .ok (.lload_n 3, 1) := by decide +kernel
theorem dX2_tell_72 : decode cX2_tell 72 = .ok (.ldc2_w 25, 3) := by decide +kernel
theorem dX2_tell_75 : decode cX2_tell 75 = .ok (.lrem, 1) := by decide +kernel
theorem dX2_tell_76 : decode cX2_tell 76 = .ok (.ldc2_w 27, 3) := by decide +kernel
theorem dX2_tell_79 : decode cX2_tell 79 = .ok (.ldiv, 1) := by decide +kernel
theorem dX2_tell_80 : decode cX2_tell 80 = .ok (.l2i, 1) := by decide +kernel
theorem dX2_tell_81 : decode cX2_tell 81 = .ok (.ireturn, 1) := by decide +kernel
theorem dX2_tell_82 : decode cX2_tell 82 = .ok (.lload_n 3, 1) := by decide +kernel
theorem dX2_tell_83 : decode cX2_tell 83 = .ok (.ldc2_w 27, 3) := by decide +kernel
theorem dX2_tell_86 : decode cX2_tell 86 = .ok (.lrem, 1) := by decide +kernel
theorem dX2_tell_87 : decode cX2_tell 87 = .ok (.l2i, 1) := by decide +kernel
theorem dX2_tell_88 : decode cX2_tell 88 = .ok (.ireturn, 1) := by decide +kernel
theorem dX2_tell_89 : decode cX2_tell 89 = .ok (.iconst (-1), 1) := by decide +kernel
theorem dX2_tell_90 : decode cX2_tell 90 = .ok (.ireturn, 1) := by decide +kernel
theorem dX8_life_0 : decode cX8_life 0 = .ok (.aload_n 0, 1) := by decide +kernel
theorem dX8_life_1 : decode cX8_life 1 = .ok (.iload_n 1, 1) := by decide +kernel
theorem dX8_life_2 : decode cX8_life 2 = .ok (.invokevirtual 82, 3) := by decide +kernel
theorem dX8_life_5 : decode cX8_life 5 = .ok (.ifCond .eq 24, 3) := by decide +kernel
theorem dX8_life_8 : decode cX8_life 8 = .ok (.iload_n 2, 1) := by decide +kernel
theorem dX8_life_9 : decode cX8_life 9 = .ok (.iconst 0, 1) := by decide +kernel
theorem dX8_life_10 : decode cX8_life 10 = .ok (.bipush 7, 2) := by decide +kernel
theorem dX8_life_12 : decode cX8_life 12 = .ok (.invokestatic 57, 3) := by decide +kernel
theorem dX8_life_15 : decode cX8_life 15 = .ok (.ifCond .eq 14, 3) := by decide +kernel
theorem dX8_life_18 : decode cX8_life 18 = .ok (.iload_n 3, 1) := by decide +kernel
theorem dX8_life_19 : decode cX8_life 19 = .ok (.iconst 0, 1) := by decide +kernel
theorem dX8_life_20 : decode cX8_life 20 = .ok (.sipush 1000, 3) := by decide +kernel
theorem dX8_life_23 : decode cX8_life 23 = .ok (.invokestatic 57, 3) := by decide +kernel
theorem dX8_life_26 : decode cX8_life 26 = .ok (.ifCond .ne 5, 3) := by decide +kernel
theorem dX8_life_29 : decode cX8_life 29 = .ok (.iconst (-1), 1) := by decide +kernel
theorem dX8_life_30 : decode cX8_life 30 = .ok (.ireturn, 1) := by decide +kernel
theorem dX8_life_31 : decode cX8_life 31 = .ok (.aload_n 0, 1) := by decide +kernel
theorem dX8_life_32 : decode cX8_life 32 = .ok (.getfield 10, 3) := by decide +kernel
theorem dX8_life_35 : decode cX8_life 35 = .ok (.iload_n 1, 1) := by decide +kernel
theorem dX8_life_36 : decode cX8_life 36 = .ok (.invokevirtual 86, 3) := by decide +kernel
theorem dX8_life_39 : decode cX8_life 39 = .ok (.checkcast 65, 3) := by decide +kernel
theorem dX8_life_42 : decode cX8_life 42 = .ok (.astore 4, 2) := by decide +kernel
theorem dX8_life_44 : decode cX8_life 44 = .ok (.aload 4, 2) := by decide +kernel
theorem dX8_life_46 : decode cX8_life 46 = .ok (.getfield 90, 3) := by decide +kernel
theorem dX8_life_49 : decode cX8_life 49 = .ok (.iconst 3, 1) := by decide +kernel
theorem dX8_life_50 : decode cX8_life 50 = .ok (.if_icmp .ne 6, 3) := by decide +kernel
theorem dX8_life_53 : decode cX8_life 53 = .ok (.bipush (-2), 2) := by decide +kernel
theorem dX8_life_55 : decode cX8_life 55 = .ok (.ireturn, 1) := by decide +kernel
theorem dX8_life_56 : decode cX8_life 56 = .ok (.aload 4, 2) := by decide +kernel
theorem dX8_life_58 : decode cX8_life 58 = .ok (.getfield 93, 3) := by decide +kernel
theorem dX8_life_61 : decode cX8_life 61 = .ok (.iload_n 2, 1) := by decide +kernel
theorem dX8_life_62 : decode cX8_life 62 = .ok (.iaload, 1) := by decide +kernel
theorem dX8_life_63 : decode cX8_life 63 = .ok (.istore 5, 2) := by decide +kernel
theorem dX8_life_65 : decode cX8_life 65 = .ok (.aload 4, 2) := by decide +kernel
theorem dX8_life_67 : decode cX8_life 67 = .ok (.getfield 93, 3) := by decide +kernel
theorem dX8_life_70 : decode cX8_life 70 = .ok (.iload_n 2, 1) := by decide +kernel
theorem dX8_life_71 : decode cX8_life 71 = .ok (.iload_n 3, 1) := by decide +kernel
theorem dX8_life_72 : decode cX8_life 72 = .ok (.iastore, 1) := by decide +kernel
theorem dX8_life_73 : decode cX8_life 73 = .ok (.iload 5, 2) := by decide +kernel
theorem dX8_life_75 : decode cX8_life 75 = .ok (.ireturn, 1) := by decide +kernel
theorem dX8_again_0 : decode cX8_again 0 = .ok (.aload_n 0, 1) := by decide +kernel
theorem dX8_again_1 : decode cX8_again 1 = .ok (.iload_n 1, 1) := by decide +kernel
theorem dX8_again_2 : decode cX8_again 2 = .ok (.invokevirtual 82, 3) := by decide +kernel
theorem dX8_again_5 : decode cX8_again 5 = .ok (.ifCond .eq 35, 3) := by decide +kernel
theorem dX8_again_8 : decode cX8_again 8 = .ok (.iload_n 2, 1) := by decide +kernel
theorem dX8_again_9 : decode cX8_again 9 = .ok (.iconst 1, 1) := by decide +kernel
theorem dX8_again_10 : decode cX8_again 10 = .ok (.bipush 50, 2) := by decide +kernel
theorem dX8_again_12 : decode cX8_again 12 = .ok (.invokestatic 57, 3) := by decide +kernel
theorem dX8_again_15 : decode cX8_again 15 = .ok (.ifCond .eq 25, 3) := by decide +kernel
theorem dX8_again_18 : decode cX8_again 18 = .ok (.iload_n 3, 1) := by decide +kernel
theorem dX8_again_19 : decode cX8_again 19 = .ok (.iconst 0, 1) := by decide +kernel
theorem dX8_again_20 : decode cX8_again 20 = .ok (.bipush 10, 2) := by decide +kernel
theorem dX8_again_22 : decode cX8_again 22 = .ok (.invokestatic 57, 3) := by decide +kernel
theorem dX8_again_25 : decode cX8_again 25 = .ok (.ifCond .eq 15, 3) := by decide +kernel
theorem dX8_again_28 : decode cX8_again 28 = .ok (.iload 4, 2) := by decide +kernel
theorem dX8_again_30 : decode cX8_again 30 = .ok (.iconst 1, 1) := by decide +kernel
theorem dX8_again_31 : decode cX8_again 31 = .ok (.sipush 200, 3) := by decide +kernel
theorem dX8_again_34 : decode cX8_again 34 = .ok (.invokestatic 57, 3) := by decide +kernel
theorem dX8_again_37 : decode cX8_again 37 = .ok (.ifCond .ne 5, 3) := by decide +kernel
theorem dX8_again_40 : decode cX8_again 40 = .ok (.iconst (-1), 1) := by decide +kernel
theorem dX8_again_41 : decode cX8_again 41 = .ok (.ireturn, 1) := by decide +kernel
theorem dX8_again_42 : decode cX8_again 42 = .ok (.aload_n 0, 1) := by decide +kernel
theorem dX8_again_43 : decode cX8_again 43 = .ok (.getfield 10, 3) := by decide +kernel
theorem dX8_again_46 : decode cX8_again 46 = .ok (.iload_n 1, 1) := by decide +kernel
theorem dX8_again_47 : decode cX8_again 47 = .ok (.invokevirtual 86, 3) := by decide +kernel
theorem dX8_again_50 : decode cX8_again 50 = .ok (.checkcast 65, 3) := by decide +kernel
theorem dX8_again_53 : decode cX8_again 53 = .ok (.getfield 97, 3) := by decide +kernel
theorem dX8_again_56 : decode cX8_again 56 = .ok (.iload_n 2, 1) := by decide +kernel
theorem dX8_again_57 : decode cX8_again 57 = .ok (.iload_n 3, 1) := by decide +kernel
theorem dX8_again_58 : decode cX8_again 58 = .ok (.iload 4, 2) := by decide +kernel
theorem dX8_again_60 : decode cX8_again 60 = .ok (.invokevirtual 101, 3) := by decide +kernel
theorem dX8_again_63 : decode cX8_again 63 = .ok (.iconst 1, 1) := by decide +kernel
theorem dX8_again_64 : decode cX8_again 64 = .ok (.ireturn, 1) := by decide +kernel
theorem dX8_canRelate_0 : decode cX8_canRelate 0 = .ok (.iload_n 1, 1) := by decide +kernel
theorem dX8_canRelate_1 : decode cX8_canRelate 1 = .ok (.iconst 0, 1) := by decide +kernel
theorem dX8_canRelate_2 : decode cX8_canRelate 2 = .ok (.iconst 3, 1) := by decide +kernel
theorem dX8_canRelate_3 : decode cX8_canRelate 3 = .ok (.invokestatic 57, 3) := by decide +kernel
theorem dX8_canRelate_6 : decode cX8_canRelate 6 = .ok (.ifCond .eq 28, 3) := by decide +kernel
theorem dX8_canRelate_9 : decode cX8_canRelate 9 = .ok (.aload_n 0, 1) := by decide +kernel
theorem dX8_canRelate_10 : decode cX8_canRelate 10 = .ok (.iload_n 2, 1) := by decide +kernel
theorem dX8_canRelate_11 : decode cX8_canRelate 11 = .ok (.invokevirtual 82, 3) := by decide +kernel
theorem dX8_canRelate_14 : decode cX8_canRelate 14 = .ok (.ifCond .eq 20, 3) := by decide +kernel
theorem dX8_canRelate_17 : decode cX8_canRelate 17 = .ok (.aload_n 0, 1) := by decide +kernel
theorem dX8_canRelate_18 : decode cX8_canRelate 18 = .ok (.iload_n 3, 1) := by decide +kernel
theorem dX8_canRelate_19 : decode cX8_canRelate 19 = .ok (.invokevirtual 82, 3) := by decide +kernel
theorem dX8_canRelate_22 : decode cX8_canRelate 22 = .ok (.ifCond .eq 12, 3) := by decide +kernel
theorem dX8_canRelate_25 : decode cX8_canRelate 25 = .ok (.iload_n 2, 1) := by decide +kernel
theorem dX8_canRelate_26 : decode cX8_canRelate 26 = .ok (.iload_n 3, 1) := by decide +kernel
theorem dX8_canRelate_27 : decode cX8_canRelate 27 = .ok (.if_icmp .eq 7, 3) := by decide +kernel
theorem dX8_canRelate_30 : decode cX8_canRelate 30 = .ok (.iconst 1, 1) := by decide +kernel
theorem dX8_canRelate_31 : decode cX8_canRelate 31 = .ok (.goto 4, 3) := by decide +kernel
theorem dX8_canRelate_34 : decode cX8_canRelate 34 = .ok (.iconst 0, 1) := by decide +kernel
theorem dX8_canRelate_35 : decode cX8_canRelate 35 = .ok (.ireturn, 1) := by decide +kernel
def wq_x_htell : List Cond := [.code yX2_tell cX2_tell 5 (some .int), .fieldLink RX2 15 "ServiceTree$History" "size" "I", .fieldLink RX2 9 "ServiceTree$History" "kept" "[J", .constantLong RX2 25 (512), .constantLong RX2 27 (8)] ++ (wsX20)
theorem in_x_htell_X2 : ∀ w ∈ wsX20, w ∈ wq_x_htell := fun _ h => List.mem_append_right _ (h)
set_option maxRecDepth 20000 in
theorem wi_x_htell : ∀ w ∈ wq_x_htell, w ∈ lw_tbl := List.forall_mem_append.mpr ⟨(by decide +kernel), inKX2⟩
set_option maxRecDepth 20000 in
theorem wg_x_htell : GoodIn wq_x_htell wq_x_htell := goodIn_sub (fun _ h => h) (by decide +kernel)
def rm_x_htell : Room := { frames := 0, cells := 0, slots := 0, locals := 0 }
set_option maxHeartbeats 4000000 in
set_option maxRecDepth 100000 in
theorem c_x_htell (l : Launch) (dC : Nat → ClassId) (dI : Nat → Nat → Nat) (h : Nat) (a : Nat → Nat) (e : Nat) (cI cJ cO cE : ClassId) (L : Nat → Int64) (I : Nat → Int32) (M : Nat → Nat → Int64) (J : Nat → Nat → Int32) (n cap : Nat) (fE : Nat → Option Nat) (sd : Nat → Nat → Nat) (si : Nat → Nat → Int32) (sa : Nat → Nat → Nat → Int32) (dl : Nat → Nat) (b : Nat) (p0 : Int32) (p1 : Int32) (sz : Nat) (hX0 : InvX n cap fE sd dl b I J si) (hb0 : b + 0 < 2147483648)  : Met l yX2_tell wq_x_htell rm_x_htell (va_Pc [.ref (a 5), .int p0, .int p1] (fun U => U.heap.size = sz ∧ va_P (dC, dI) vwCl (xW h a e cI cJ cO cE L I M J n cap fE sd si sa dl) U.heap ∧ va_K (dC, dI) vwCl (xT cI cJ cO cE) U ∧ va_D (fun _ => True) (xW h a e cI cJ cO cE L I M J n cap fE sd si sa dl) ∧ pw_N U)) (va_Qi (fun (r : Int32) (u : Unit) => (True)) (fun (u : Unit) (t : State) => va_P (dC, dI) vwCl (xW h a e cI cJ cO cE L I M J n cap fE sd si sa dl) t.heap ∧ va_D (va_A (xW h a e cI cJ cO cE L I M J n cap fE sd si sa dl) sz) (xW h a e cI cJ cO cE L I M J n cap fE sd si sa dl)) (va_A (xW h a e cI cJ cO cE L I M J n cap fE sd si sa dl) sz)) 0 0 (va_A (xW h a e cI cJ cO cE L I M J n cap fE sd si sa dl) sz) := by
  have hn : n ≤ 40 := hX0.1.1
  have hX := hX0
  refine Met.ofW (cc := cX2_tell) (maxL := 5) (ret := (some .int)) (by decide) rfl ?_
  intro p e9 s m args below meth c s₁ B hml hv
  obtain ⟨rfl, hsz, hP, hK, hD0, hN⟩ := hv
  have hx := B.exec
  have hb := B.bytes
  have hr := B.returns
  have hts := atoms_spec (ws := wq_x_htell) B.pre
  have hown : s.vm.findClass RX2 = some m.cls := findClass_of_methodNamed B.named
  have hlocks := B.notSynchronized
  subst hsz
  have hD := hD0.self (sz := s.heap.size)
  generalize hAe : va_A (xW h a e cI cJ cO cE L I M J n cap fE sd si sa dl) s.heap.size = A at hD ⊢
  have hA : ∀ q : Nat, s.heap.size ≤ q → A q := fun q h => by rw [← hAe]; exact Or.inr h
  have hS : va_S A s.heap s.heap [] := va_S.rf
  have hl := lv_entry ([.ref (a 5), .int p0, .int p1]) (n := 5) (Nat.le_of_ble_eq_true rfl)
  rw [lg_entry_eq]
  generalize (lg_sl ([.ref (a 5), .int p0, .int p1]) ++ List.replicate (5 - (lg_sl ([.ref (a 5), .int p0, .int p1])).length) Slot.unset).toArray = ls at hl ⊢
  have hl : lv_has ls 5 [(0, .ref (a 5)), (1, .int p0), (2, .int p1)] := hl
  refine lv_iload_n hx hb dX2_tell_0 rfl (lv_at hl 1 rfl) ?_
  refine lv_if_lt (tgt := 24) hx hb dX2_tell_1 (by decide) (fun c1 => ?_) (fun c1 => ?_)
  · refine lv_iconst (v := (-1)) hx hb dX2_tell_24 (by decide) ?_
    exact W.iret (v := (-1)) hx hb hr (fun t ht hW => ⟨⟨(-1), (), rfl, trivial, by rw [ht]; exact hP, hD⟩, hS.F ht⟩) hS.2.2 dX2_tell_25
  · obtain ⟨j2, hj2, ej2⟩ := nI_of c1
    subst ej2
    refine lv_iload_n hx hb dX2_tell_4 rfl (lv_at hl 1 rfl) ?_
    refine lv_aload_n hx hb dX2_tell_5 rfl (lv_at hl 0 rfl) ?_
    refine va_get (D := (dC, dI)) (ci := 3) (v := .int (I 12)) (C := RX2) (T := TX2) (N := 2) hx hb hts in_x_htell_X2 hown hK hP 19 rfl rfl 1 (by decide) (hts (.fieldLink RX2 15 "ServiceTree$History" "size" "I") (by decide +kernel)) (fun _ h9 => h9) rfl dX2_tell_6 ?_
    obtain ⟨z3, hz3, ez3⟩ := hX.2.1.2
    refine p1_topr (v := .int (nI z3)) (congrArg Value.int ez3) ?_
    refine lv_icmp_ge (tgt := 24) hx hb dX2_tell_9 (by decide) (fun c4 => ?_) (fun c4 => ?_)
    · replace c4 : z3 ≤ j2 := (nI_leI (a := z3) (b := j2) (by omega) (by omega)).mp c4
      refine lv_iconst (v := (-1)) hx hb dX2_tell_24 (by decide) ?_
      exact W.iret (v := (-1)) hx hb hr (fun t ht hW => ⟨⟨(-1), (), rfl, trivial, by rw [ht]; exact hP, hD⟩, hS.F ht⟩) hS.2.2 dX2_tell_25
    · replace c4 : ¬ (z3 ≤ j2) := fun q9 => c4 ((nI_leI (a := z3) (b := j2) (by omega) (by omega)).mpr q9)
      refine lv_iload_n hx hb dX2_tell_12 rfl (lv_at hl 1 rfl) ?_
      refine lv_aload_n hx hb dX2_tell_13 rfl (lv_at hl 0 rfl) ?_
      refine va_get (D := (dC, dI)) (ci := 3) (v := .int (I 12)) (C := RX2) (T := TX2) (N := 2) hx hb hts in_x_htell_X2 hown hK hP 19 rfl rfl 1 (by decide) (hts (.fieldLink RX2 15 "ServiceTree$History" "size" "I") (by decide +kernel)) (fun _ h9 => h9) rfl dX2_tell_14 ?_
      refine p1_topr (v := .int (nI z3)) (congrArg Value.int ez3) ?_
      refine lv_sipush (v := 2000) hx hb dX2_tell_17 (by decide) ?_
      refine lv_isub hx hb dX2_tell_20 ?_
      refine lv_topi (fun x5 ex5 => ?_)
      refine lv_icmp_ge (tgt := 26) hx hb dX2_tell_21 (by decide) (fun c6 => ?_) (fun c6 => ?_)
      · refine lv_aload_n hx hb dX2_tell_26 rfl (lv_at hl 0 rfl) ?_
        refine va_get (D := (dC, dI)) (ci := 3) (v := .ref (a 15)) (C := RX2) (T := TX2) (N := 2) hx hb hts in_x_htell_X2 hown hK hP 19 rfl rfl 0 (by decide) (hts (.fieldLink RX2 9 "ServiceTree$History" "kept" "[J") (by decide +kernel)) (fun _ h9 => h9) rfl dX2_tell_27 ?_
        refine lv_iload_n hx hb dX2_tell_30 rfl (lv_at hl 1 rfl) ?_
        refine lv_sipush (v := 2000) hx hb dX2_tell_31 (by decide) ?_
        refine lv_irem hx hb dX2_tell_34 (by decide) ?_
        obtain ⟨m7, hm7, em7⟩ : ∃ z9 : Nat, z9 < 2000 ∧ z9 = j2 % 2000 := ⟨_, Nat.mod_lt _ (by omega), rfl⟩
        refine p1_topr (v := .int (nI m7)) (congrArg Value.int (by rw [em7]; exact pk_rem (a := j2) (d := 2000) (by omega) (by omega) (by omega))) ?_
        refine va_lald (n := 2000) (f := M 8) hx hb hK hP 20 1 rfl rfl (vp_in_nI (n := m7) (by omega) (by omega)) dX2_tell_35 ?_
        refine lv_topl (fun x8 ex8 => ?_)
        refine lv_lstore_n (lv' := [(3, .long x8), (0, .ref (a 5)), (1, .int (nI j2)), (2, .int p1)]) hx hb dX2_tell_36 rfl hl (by decide) rfl (fun ls hl => ?_)
        refine lv_iload_n hx hb dX2_tell_37 rfl (lv_at hl 3 rfl) ?_
        rcases Classical.em (p1 = 0) with c9 | c9
        · refine lv_tableIn (tgt := 64) (off := 26) hx hb dX2_tell_38 (by rw [c9]; decide) (by rw [c9]; decide) (by rw [c9]; rfl) (by decide) ?_
          refine lv_lload_n hx hb dX2_tell_64 rfl (lv_at hl 0 rfl) ?_
          refine lv_ldc2 (v := 512) hx hb hown (hts (.constantLong RX2 25 (512)) (by decide +kernel)) dX2_tell_65 ?_
          refine lv_ldiv hx hb dX2_tell_68 (by decide) ?_
          refine lv_topl (fun x10 ex10 => ?_)
          refine lv_l2i hx hb dX2_tell_69 rfl ?_
          refine lv_topi (fun x11 ex11 => ?_)
          exact W.iret (v := x11) hx hb hr (fun t ht hW => ⟨⟨x11, (), rfl, trivial, by rw [ht]; exact hP, hD⟩, hS.F ht⟩) hS.2.2 dX2_tell_70
        rcases Classical.em (p1 = 1) with c12 | c12
        · refine lv_tableIn (tgt := 71) (off := 33) hx hb dX2_tell_38 (by rw [c12]; decide) (by rw [c12]; decide) (by rw [c12]; rfl) (by decide) ?_
          refine lv_lload_n hx hb dX2_tell_71 rfl (lv_at hl 0 rfl) ?_
          refine lv_ldc2 (v := 512) hx hb hown (hts (.constantLong RX2 25 (512)) (by decide +kernel)) dX2_tell_72 ?_
          refine lv_lrem hx hb dX2_tell_75 (by decide) ?_
          refine lv_topl (fun x13 ex13 => ?_)
          refine lv_ldc2 (v := 8) hx hb hown (hts (.constantLong RX2 27 (8)) (by decide +kernel)) dX2_tell_76 ?_
          refine lv_ldiv hx hb dX2_tell_79 (by decide) ?_
          refine lv_topl (fun x14 ex14 => ?_)
          refine lv_l2i hx hb dX2_tell_80 rfl ?_
          refine lv_topi (fun x15 ex15 => ?_)
          exact W.iret (v := x15) hx hb hr (fun t ht hW => ⟨⟨x15, (), rfl, trivial, by rw [ht]; exact hP, hD⟩, hS.F ht⟩) hS.2.2 dX2_tell_81
        rcases Classical.em (p1 = 2) with c16 | c16
        · refine lv_tableIn (tgt := 82) (off := 44) hx hb dX2_tell_38 (by rw [c16]; decide) (by rw [c16]; decide) (by rw [c16]; rfl) (by decide) ?_
          refine lv_lload_n hx hb dX2_tell_82 rfl (lv_at hl 0 rfl) ?_
          refine lv_ldc2 (v := 8) hx hb hown (hts (.constantLong RX2 27 (8)) (by decide +kernel)) dX2_tell_83 ?_
          refine lv_lrem hx hb dX2_tell_86 (by decide) ?_
          refine lv_topl (fun x17 ex17 => ?_)
          refine lv_l2i hx hb dX2_tell_87 rfl ?_
          refine lv_topi (fun x18 ex18 => ?_)
          exact W.iret (v := x18) hx hb hr (fun t ht hW => ⟨⟨x18, (), rfl, trivial, by rw [ht]; exact hP, hD⟩, hS.F ht⟩) hS.2.2 dX2_tell_88
        refine lv_tableOut (tgt := 89) hx hb dX2_tell_38 (by have k0 := c9; have k1 := c12; have k2 := c16; simp only [p1_le, p1_lt, p1_eq, p1_m6, p1_m1, p1_0, p1_1, p1_2, p1_3, p1_4, p1_5, p1_6, p1_7, p1_8, p1_9, p1_10, p1_11, p1_12, p1_13, p1_14, p1_15, p1_16, p1_17, p1_18, p1_19, p1_20, p1_40, p1_50, p1_200, p1_1000] at k0 k1 k2 ⊢; omega) (by decide) ?_
        refine lv_iconst (v := (-1)) hx hb dX2_tell_89 (by decide) ?_
        exact W.iret (v := (-1)) hx hb hr (fun t ht hW => ⟨⟨(-1), (), rfl, trivial, by rw [ht]; exact hP, hD⟩, hS.F ht⟩) hS.2.2 dX2_tell_90
      · refine lv_iconst (v := (-1)) hx hb dX2_tell_24 (by decide) ?_
        exact W.iret (v := (-1)) hx hb hr (fun t ht hW => ⟨⟨(-1), (), rfl, trivial, by rw [ht]; exact hP, hD⟩, hS.F ht⟩) hS.2.2 dX2_tell_25
def wq_x_weigh : List Cond := [.code yX1_weigh cX1_weigh 12 (some .int), .fieldLink RX1 15 "ServiceTree$Draft" "members" "J", .constantLong RX1 32 (-1), .fieldLink RX1 9 "ServiceTree$Draft" "relations" "LServiceTree$Relations;", .fieldLink RX1 29 "ServiceTree$Draft" "stops" "J", .fieldLink RX1 46 "ServiceTree$Draft" "starts" "J", .fieldLink RX1 53 "ServiceTree$Draft" "ringSize" "I", .initialized RX8, .static yX8_only, .methodLink RX1 34 yX1_gatherNeeded, .instanceMethod yX1_gatherNeeded, .selects RX1 yX1_gatherNeeded yX1_gatherNeeded, .initialized RX1, .methodLink RX1 38 yX1_gatherWanted, .instanceMethod yX1_gatherWanted, .selects RX1 yX1_gatherWanted yX1_gatherWanted, .methodLink RX1 42 yX5_fromAny, .instanceMethod yX5_fromAny, .selects RX5 yX5_fromAny yX5_fromAny, .initialized RX5, .methodLink RX1 23 yX5_withNeeders, .instanceMethod yX5_withNeeders, .selects RX5 yX5_withNeeders yX5_withNeeders, .methodLink RX1 49 yX5_shortestRing, .instanceMethod yX5_shortestRing, .selects RX5 yX5_shortestRing yX5_shortestRing, .methodLink RX1 57 yJ13_bitCount_95d88, .static yJ13_bitCount_95d88, .initialized RJ13] ++ (wsX10 ++ (wq_x_gatherNeeded ++ (wq_x_gatherWanted ++ (wq_x_fromAny3 ++ (wq_x_withNeeders ++ (wq_x_shortestRing ++ (wq_x_bitCount ++ (wq_x_only))))))))
theorem in_x_weigh_X1 : ∀ w ∈ wsX10, w ∈ wq_x_weigh := fun _ h => List.mem_append_right _ (List.mem_append_left _ (h))
set_option maxRecDepth 20000 in
theorem wi_x_weigh : ∀ w ∈ wq_x_weigh, w ∈ lw_tbl := List.forall_mem_append.mpr ⟨(by decide +kernel), List.forall_mem_append.mpr ⟨inKX1, List.forall_mem_append.mpr ⟨wi_x_gatherNeeded, List.forall_mem_append.mpr ⟨wi_x_gatherWanted, List.forall_mem_append.mpr ⟨wi_x_fromAny3, List.forall_mem_append.mpr ⟨wi_x_withNeeders, List.forall_mem_append.mpr ⟨wi_x_shortestRing, List.forall_mem_append.mpr ⟨wi_x_bitCount, wi_x_only⟩⟩⟩⟩⟩⟩⟩⟩
set_option maxRecDepth 20000 in
theorem wg_x_weigh : GoodIn wq_x_weigh wq_x_weigh := goodIn_sub (fun _ h => h) (by decide +kernel)
set_option maxRecDepth 20000 in
theorem wc_x_weigh_x_gatherNeeded_34 : GoodIn wq_x_weigh (wsV RX1 34 RX1 yX1_gatherNeeded wq_x_gatherNeeded) := goodIn_app (goodIn_of _ (by decide +kernel)) (fun w h => ⟨List.mem_append_right _ (List.mem_append_right _ (List.mem_append_left _ (h))), (wg_x_gatherNeeded w h).2⟩)
set_option maxRecDepth 20000 in
theorem wc_x_weigh_x_gatherWanted_38 : GoodIn wq_x_weigh (wsV RX1 38 RX1 yX1_gatherWanted wq_x_gatherWanted) := goodIn_app (goodIn_of _ (by decide +kernel)) (fun w h => ⟨List.mem_append_right _ (List.mem_append_right _ (List.mem_append_right _ (List.mem_append_left _ (h)))), (wg_x_gatherWanted w h).2⟩)
set_option maxRecDepth 20000 in
theorem wc_x_weigh_x_fromAny3_42 : GoodIn wq_x_weigh (wsV RX1 42 RX5 yX5_fromAny wq_x_fromAny3) := goodIn_app (goodIn_of _ (by decide +kernel)) (fun w h => ⟨List.mem_append_right _ (List.mem_append_right _ (List.mem_append_right _ (List.mem_append_right _ (List.mem_append_left _ (h))))), (wg_x_fromAny3 w h).2⟩)
set_option maxRecDepth 20000 in
theorem wc_x_weigh_x_withNeeders_23 : GoodIn wq_x_weigh (wsV RX1 23 RX5 yX5_withNeeders wq_x_withNeeders) := goodIn_app (goodIn_of _ (by decide +kernel)) (fun w h => ⟨List.mem_append_right _ (List.mem_append_right _ (List.mem_append_right _ (List.mem_append_right _ (List.mem_append_right _ (List.mem_append_left _ (h)))))), (wg_x_withNeeders w h).2⟩)
set_option maxRecDepth 20000 in
theorem wc_x_weigh_x_shortestRing_49 : GoodIn wq_x_weigh (wsV RX1 49 RX5 yX5_shortestRing wq_x_shortestRing) := goodIn_app (goodIn_of _ (by decide +kernel)) (fun w h => ⟨List.mem_append_right _ (List.mem_append_right _ (List.mem_append_right _ (List.mem_append_right _ (List.mem_append_right _ (List.mem_append_right _ (List.mem_append_left _ (h))))))), (wg_x_shortestRing w h).2⟩)
set_option maxRecDepth 20000 in
theorem wc_x_weigh_x_bitCount_57 : GoodIn wq_x_weigh (va_wsS RX1 57 yJ13_bitCount_95d88 wq_x_bitCount) := goodIn_app (goodIn_of _ (by decide +kernel)) (fun w h => ⟨List.mem_append_right _ (List.mem_append_right _ (List.mem_append_right _ (List.mem_append_right _ (List.mem_append_right _ (List.mem_append_right _ (List.mem_append_right _ (List.mem_append_left _ (h)))))))), (wg_x_bitCount w h).2⟩)
theorem wc_x_weigh_x_only_19 : GoodIn wq_x_weigh wq_x_only := (fun w h => ⟨List.mem_append_right _ (List.mem_append_right _ (List.mem_append_right _ (List.mem_append_right _ (List.mem_append_right _ (List.mem_append_right _ (List.mem_append_right _ (List.mem_append_right _ (h)))))))), (wg_x_only w h).2⟩)
def rm_x_weigh : Room := { frames := 5, cells := 0, slots := 0, locals := 127 }
set_option maxHeartbeats 4000000 in
set_option maxRecDepth 100000 in
theorem c_x_weigh (l : Launch) (dC : Nat → ClassId) (dI : Nat → Nat → Nat) (h : Nat) (a : Nat → Nat) (e : Nat) (cI cJ cO cE : ClassId) (L : Nat → Int64) (I : Nat → Int32) (M : Nat → Nat → Int64) (J : Nat → Nat → Int32) (n cap : Nat) (fE : Nat → Option Nat) (sd : Nat → Nat → Nat) (si : Nat → Nat → Int32) (sa : Nat → Nat → Nat → Int32) (dl : Nat → Nat) (b : Nat) (p0 : Int32) (p1 : Int32) (p2 : Int64) (p3 : Int64) (sz : Nat) (hX0 : InvX n cap fE sd dl b I J si) (hb0 : b + 0 < 2147483648)  : Met l yX1_weigh wq_x_weigh rm_x_weigh (va_Pc [.ref (a 2), .int p0, .int p1, .long p2, .long p3] (fun U => U.heap.size = sz ∧ va_P (dC, dI) vwCl (xW h a e cI cJ cO cE L I M J n cap fE sd si sa dl) U.heap ∧ va_K (dC, dI) vwCl (xT cI cJ cO cE) U ∧ va_D (fun _ => True) (xW h a e cI cJ cO cE L I M J n cap fE sd si sa dl) ∧ pw_N U)) (va_Qi (fun (r : Int32) (u : (Nat → Int64) × (Nat → Int32)) => InvX n cap fE sd dl (b + 0) u.2 J si ∧ (∀ j9 : Nat, j9 ∉ ([2, 3, 4] : List Nat) → u.1 j9 = L j9) ∧ (∀ j9 : Nat, j9 ∉ ([8] : List Nat) → u.2 j9 = I j9) ∧ (True)) (fun (u : (Nat → Int64) × (Nat → Int32)) (t : State) => va_P (dC, dI) vwCl (xW h a e cI cJ cO cE u.1 u.2 M J n cap fE sd si sa dl) t.heap ∧ va_D (va_A (xW h a e cI cJ cO cE L I M J n cap fE sd si sa dl) sz) (xW h a e cI cJ cO cE u.1 u.2 M J n cap fE sd si sa dl)) (va_A (xW h a e cI cJ cO cE L I M J n cap fE sd si sa dl) sz)) 0 0 (va_A (xW h a e cI cJ cO cE L I M J n cap fE sd si sa dl) sz) := by
  have hn : n ≤ 40 := hX0.1.1
  have hX := hX0
  have hUL : ∀ j9 : Nat, j9 ∉ ([2, 3, 4] : List Nat) → L j9 = L j9 := fun _ _ => rfl
  have hUI : ∀ j9 : Nat, j9 ∉ ([8] : List Nat) → I j9 = I j9 := fun _ _ => rfl
  refine Met.ofW (cc := cX1_weigh) (maxL := 12) (ret := (some .int)) (by decide) rfl ?_
  intro p e9 s m args below meth c s₁ B hml hv
  obtain ⟨rfl, hsz, hP, hK, hD0, hN⟩ := hv
  have hx := B.exec
  have hb := B.bytes
  have hr := B.returns
  have hts := atoms_spec (ws := wq_x_weigh) B.pre
  have hown : s.vm.findClass RX1 = some m.cls := findClass_of_methodNamed B.named
  have hlocks := B.notSynchronized
  subst hsz
  have hD := hD0.self (sz := s.heap.size)
  generalize hAe : va_A (xW h a e cI cJ cO cE L I M J n cap fE sd si sa dl) s.heap.size = A at hD ⊢
  have hA : ∀ q : Nat, s.heap.size ≤ q → A q := fun q h => by rw [← hAe]; exact Or.inr h
  have hS : va_S A s.heap s.heap [] := va_S.rf
  have hl := lv_entry ([.ref (a 2), .int p0, .int p1, .long p2, .long p3]) (n := 12) (Nat.le_of_ble_eq_true rfl)
  rw [lg_entry_eq]
  generalize (lg_sl ([.ref (a 2), .int p0, .int p1, .long p2, .long p3]) ++ List.replicate (12 - (lg_sl ([.ref (a 2), .int p0, .int p1, .long p2, .long p3])).length) Slot.unset).toArray = ls at hl ⊢
  have hl : lv_has ls 12 [(0, .ref (a 2)), (1, .int p0), (2, .int p1), (3, .long p2), (5, .long p3)] := hl
  refine lv_lload_n hx hb dX1_weigh_0 rfl (lv_at hl 3 rfl) ?_
  refine lv_lload hx hb dX1_weigh_1 (lv_at hl 4 rfl) ?_
  refine lv_lor hx hb dX1_weigh_3 ?_
  refine lv_topl (fun x1 ex1 => ?_)
  refine lv_lstore (lv' := [(7, .long x1), (0, .ref (a 2)), (1, .int p0), (2, .int p1), (3, .long p2), (5, .long p3)]) hx hb dX1_weigh_4 hl (by decide) rfl (fun ls hl => ?_)
  refine lv_aload_n hx hb dX1_weigh_6 rfl (lv_at hl 1 rfl) ?_
  refine lv_lconst (v := 0) hx hb dX1_weigh_7 (by decide) ?_
  refine va_put (D := (dC, dI)) (ci := 2) (fs := [.ref (a 1), .long (L 2), .long (L 3), .long (L 4), .int (I 8)]) (v := .long 0) (ty := .long) (C := RX1) (T := TX1) (N := 5) hx hb hts in_x_weigh_X1 tyX1 tyX1_ok nmX1 hown hK hP hD hS 13 rfl rfl 1 (by decide) (hts (.fieldLink RX1 15 "ServiceTree$Draft" "members" "J") (by decide +kernel)) (fun _ h9 => h9) rfl (by decide +kernel) rfl rfl (Nat.le_of_ble_eq_true rfl) dX1_weigh_8 (fun H locs hP hD hS => ?_)
  replace hP : va_P (dC, dI) vwCl ((xW h a e cI cJ cO cE L I M J n cap fE sd si sa dl).set 13 (a 2, .inr (2, [.ref (a 1), .long 0, .long (L 3), .long (L 4), .int (I 8)]))) H := hP
  replace hD : va_D A ((xW h a e cI cJ cO cE L I M J n cap fE sd si sa dl).set 13 (a 2, .inr (2, [.ref (a 1), .long 0, .long (L 3), .long (L 4), .int (I 8)]))) := hD
  rw [xF_L2] at hP hD
  obtain ⟨L2, eL2⟩ : ∃ f9 : Nat → Int64, f9 = va_up L 2 0 := ⟨_, rfl⟩
  rw [← eL2] at hP hD
  replace hUL : ∀ j9 : Nat, j9 ∉ ([2, 3, 4] : List Nat) → L2 j9 = L j9 := by rw [eL2]; exact mw_up (by decide) hUL
  refine lv_iload_n hx hb dX1_weigh_11 rfl (lv_at hl 2 rfl) ?_
  refine lv_iconst (v := 1) hx hb dX1_weigh_12 (by decide) ?_
  refine lv_icmp_ne (tgt := 39) hx hb dX1_weigh_13 (by decide) (fun c3 => ?_) (fun c3 => ?_)
  · refine lv_aload_n hx hb dX1_weigh_39 rfl (lv_at hl 1 rfl) ?_
    refine lv_iload_n hx hb dX1_weigh_40 rfl (lv_at hl 3 rfl) ?_
    refine lv_lload_n hx hb dX1_weigh_41 rfl (lv_at hl 4 rfl) ?_
    refine lv_ldc2 (v := (-1)) hx hb hown (hts (.constantLong RX1 32 (-1)) (by decide +kernel)) dX1_weigh_42 ?_
    refine lv_lxor hx hb dX1_weigh_45 ?_
    refine lv_topl (fun x4 ex4 => ?_)
    have hFc := mw_free hD hS hA
    refine va_calli (va_runV (As := [.int p1, .long x4]) (rest := []) ⟨hx, hb, hml, hown, hts⟩ (c_x_gatherNeeded l dC dI h a e cI cJ cO cE L2 I M J n cap fE sd si sa dl (b) p1 x4 H.size hX (by omega) ) (cwV 2 hts wc_x_weigh_x_gatherNeeded_34 rfl rfl rfl (by decide +kernel) ⟨Nat.le_of_ble_eq_true rfl, Nat.le_of_ble_eq_true rfl⟩) ⟨fun a9 U g mk q => by obtain ⟨q0, q1, qP, qK, qD, qN⟩ := q; exact ⟨q0, q1, qP, va_K.moved (u := U) (U := U.calling g mk a9) (Vm.Alike.refl U.vm) qK, qD, pw_N.same (u := U) (U := U.calling g mk a9) rfl qN⟩, va_recv hK hP (ci := 2) (q0 := 13) rfl rfl, fun U hU hW => ⟨rfl, by rw [hU], by rw [hU]; exact hP, va_K.moved hW.alike hK, hD.weaken (fun _ _ _ _ => trivial), pw_N.warm hW hN⟩⟩ rfl rfl hl.1 rfl (lv_room (Nat.le_of_ble_eq_true rfl)) dX1_weigh_46 ⟨Nat.le_of_ble_eq_true rfl, Nat.le_of_ble_eq_true rfl⟩) hS (fun q _ h => hFc q h) hFc (fun r5 u t H1 locs ht hvm hw hB hz1 hk1 hS => ?_)
    obtain ⟨L6, I7⟩ := u
    replace hP := hB.1
    rw [ht] at hP
    replace hD : va_D A (xW h a e cI cJ cO cE L6 I7 M J n cap fE sd si sa dl) := hB.2.weaken (fun _ q _ h9 => hFc q.1 h9)
    clear hB
    generalize H1 = H at hP hS ⊢
    replace hP : va_P (dC, dI) vwCl (xW h a e cI cJ cO cE L6 I7 M J n cap fE sd si sa dl) H := hP
    obtain ⟨hwX, whUL, whUI, hw⟩ := hw
    replace hX : InvX n cap fE sd dl (b) I7 J si := hwX
    replace hUL : ∀ j9 : Nat, j9 ∉ ([2, 3, 4] : List Nat) → L6 j9 = L j9 := mw_tr (by decide) whUL hUL
    replace hUI : ∀ j9 : Nat, j9 ∉ ([8] : List Nat) → I7 j9 = I j9 := mw_tr (by decide) whUI hUI
    refine lv_istore (lv' := [(9, .int r5), (7, .long x1), (0, .ref (a 2)), (1, .int p0), (2, .int p1), (3, .long p2), (5, .long p3)]) hx hb dX1_weigh_49 hl (by decide) rfl (fun ls hl => ?_)
    refine lv_iload hx hb dX1_weigh_51 (lv_at hl 0 rfl) ?_
    refine lv_if_ge (tgt := 59) hx hb dX1_weigh_53 (by decide) (fun c8 => ?_) (fun c8 => ?_)
    · refine lv_aload_n hx hb dX1_weigh_59 rfl (lv_at hl 2 rfl) ?_
      refine lv_lload_n hx hb dX1_weigh_60 rfl (lv_at hl 5 rfl) ?_
      refine lv_ldc2 (v := (-1)) hx hb hown (hts (.constantLong RX1 32 (-1)) (by decide +kernel)) dX1_weigh_61 ?_
      refine lv_lxor hx hb dX1_weigh_64 ?_
      refine lv_topl (fun x9 ex9 => ?_)
      have hFc := mw_free hD hS hA
      refine va_callv (va_runV (As := [.long x9]) (rest := []) ⟨hx, hb, hml, hown, hts⟩ (c_x_gatherWanted l dC dI h a e cI cJ cO cE L6 I7 M J n cap fE sd si sa dl (b) x9 H.size hX (by omega) ) (cwV 1 hts wc_x_weigh_x_gatherWanted_38 rfl rfl rfl (by decide +kernel) ⟨Nat.le_of_ble_eq_true rfl, Nat.le_of_ble_eq_true rfl⟩) ⟨fun a9 U g mk q => by obtain ⟨q0, q1, qP, qK, qD, qN⟩ := q; exact ⟨q0, q1, qP, va_K.moved (u := U) (U := U.calling g mk a9) (Vm.Alike.refl U.vm) qK, qD, pw_N.same (u := U) (U := U.calling g mk a9) rfl qN⟩, va_recv hK hP (ci := 2) (q0 := 13) rfl rfl, fun U hU hW => ⟨rfl, by rw [hU], by rw [hU]; exact hP, va_K.moved hW.alike hK, hD.weaken (fun _ _ _ _ => trivial), pw_N.warm hW hN⟩⟩ rfl rfl hl.1 rfl (lv_room (Nat.le_of_ble_eq_true rfl)) dX1_weigh_65 ⟨Nat.le_of_ble_eq_true rfl, Nat.le_of_ble_eq_true rfl⟩) hS (fun q _ h => hFc q h) hFc (fun u t H1 locs ht hvm hw hB hz1 hk1 hS => ?_)
      obtain ⟨L11, rfl⟩ : ∃ z9, z9 = u := ⟨_, rfl⟩
      replace hP := hB.1
      rw [ht] at hP
      replace hD : va_D A (xW h a e cI cJ cO cE L11 I7 M J n cap fE sd si sa dl) := hB.2.weaken (fun _ q _ h9 => hFc q.1 h9)
      clear hB
      generalize H1 = H at hP hS ⊢
      replace hP : va_P (dC, dI) vwCl (xW h a e cI cJ cO cE L11 I7 M J n cap fE sd si sa dl) H := hP
      obtain ⟨hwX, whUL, hw⟩ := hw
      replace hX : InvX n cap fE sd dl (b) I7 J si := hwX
      replace hUL : ∀ j9 : Nat, j9 ∉ ([2, 3, 4] : List Nat) → L11 j9 = L j9 := mw_tr (by decide) whUL hUL
      refine lv_aload_n hx hb dX1_weigh_68 rfl (lv_at hl 2 rfl) ?_
      refine va_get (D := (dC, dI)) (ci := 2) (v := .ref (a 1)) (C := RX1) (T := TX1) (N := 5) hx hb hts in_x_weigh_X1 hown hK hP 13 rfl rfl 0 (by decide) (hts (.fieldLink RX1 9 "ServiceTree$Draft" "relations" "LServiceTree$Relations;") (by decide +kernel)) (fun _ h9 => h9) rfl dX1_weigh_69 ?_
      refine lv_iconst (v := 3) hx hb dX1_weigh_72 (by decide) ?_
      refine lv_aload_n hx hb dX1_weigh_73 rfl (lv_at hl 2 rfl) ?_
      refine va_get (D := (dC, dI)) (ci := 2) (v := .long (L11 2)) (C := RX1) (T := TX1) (N := 5) hx hb hts in_x_weigh_X1 hown hK hP 13 rfl rfl 1 (by decide) (hts (.fieldLink RX1 15 "ServiceTree$Draft" "members" "J") (by decide +kernel)) (fun _ h9 => h9) rfl dX1_weigh_74 ?_
      refine lv_topl (fun x12 ex12 => ?_)
      have hFc := mw_free hD hS hA
      refine va_calll (va_runV (As := [.int 3, .long x12]) (rest := []) ⟨hx, hb, hml, hown, hts⟩ (c_x_fromAny3 l dC dI h a e cI cJ cO cE L11 I7 M J n cap fE sd si sa dl (b) x12 H.size hX (by omega) ) (cwV 2 hts wc_x_weigh_x_fromAny3_42 rfl rfl rfl (by decide +kernel) ⟨Nat.le_of_ble_eq_true rfl, Nat.le_of_ble_eq_true rfl⟩) ⟨fun a9 U g mk q => by obtain ⟨q0, q1, qP, qK, qD, qN⟩ := q; exact ⟨q0, q1, qP, va_K.moved (u := U) (U := U.calling g mk a9) (Vm.Alike.refl U.vm) qK, qD, pw_N.same (u := U) (U := U.calling g mk a9) rfl qN⟩, va_recv hK hP (ci := 6) (q0 := 2) rfl rfl, fun U hU hW => ⟨rfl, by rw [hU], by rw [hU]; exact hP, va_K.moved hW.alike hK, hD.weaken (fun _ _ _ _ => trivial), pw_N.warm hW hN⟩⟩ rfl rfl hl.1 rfl (lv_room (Nat.le_of_ble_eq_true rfl)) dX1_weigh_77 ⟨Nat.le_of_ble_eq_true rfl, Nat.le_of_ble_eq_true rfl⟩) hS (fun q _ h => hFc q h) hFc (fun r13 u t H1 locs ht hvm hw hB hz1 hk1 hS => ?_)
      replace hP := hB.1
      rw [ht] at hP
      replace hD : va_D A (xW h a e cI cJ cO cE L11 I7 M J n cap fE sd si sa dl) := hB.2.weaken (fun _ q _ h9 => hFc q.1 h9)
      clear hB
      generalize H1 = H at hP hS ⊢
      replace hP : va_P (dC, dI) vwCl (xW h a e cI cJ cO cE L11 I7 M J n cap fE sd si sa dl) H := hP
      refine lv_iload_n hx hb dX1_weigh_80 rfl (lv_at hl 3 rfl) ?_
      refine lv_iconst (v := 2) hx hb dX1_weigh_81 (by decide) ?_
      refine lv_icmp_ne (tgt := 96) hx hb dX1_weigh_82 (by decide) (fun c14 => ?_) (fun c14 => ?_)
      · refine lv_lconst (v := 0) hx hb dX1_weigh_96 (by decide) ?_
        refine lv_lor hx hb dX1_weigh_97 ?_
        refine lv_topl (fun x15 ex15 => ?_)
        refine lv_lstore (lv' := [(10, .long x15), (9, .int r5), (7, .long x1), (0, .ref (a 2)), (1, .int p0), (2, .int p1), (3, .long p2), (5, .long p3)]) hx hb dX1_weigh_98 hl (by decide) rfl (fun ls hl => ?_)
        refine lv_aload_n hx hb dX1_weigh_100 rfl (lv_at hl 3 rfl) ?_
        refine lv_aload_n hx hb dX1_weigh_101 rfl (lv_at hl 3 rfl) ?_
        refine va_get (D := (dC, dI)) (ci := 2) (v := .ref (a 1)) (C := RX1) (T := TX1) (N := 5) hx hb hts in_x_weigh_X1 hown hK hP 13 rfl rfl 0 (by decide) (hts (.fieldLink RX1 9 "ServiceTree$Draft" "relations" "LServiceTree$Relations;") (by decide +kernel)) (fun _ h9 => h9) rfl dX1_weigh_102 ?_
        refine lv_lload hx hb dX1_weigh_105 (lv_at hl 0 rfl) ?_
        refine lv_lload hx hb dX1_weigh_107 (lv_at hl 2 rfl) ?_
        refine lv_land hx hb dX1_weigh_109 ?_
        refine lv_topl (fun x16 ex16 => ?_)
        refine lv_lload hx hb dX1_weigh_110 (lv_at hl 2 rfl) ?_
        have hFc := mw_free hD hS hA
        refine va_calll (va_runV (As := [.long x16, .long x1]) (rest := [.ref (a 2)]) ⟨hx, hb, hml, hown, hts⟩ (c_x_withNeeders l dC dI h a e cI cJ cO cE L11 I7 M J n cap fE sd si sa dl (b) x16 x1 H.size hX (by omega) ) (cwV 2 hts wc_x_weigh_x_withNeeders_23 rfl rfl rfl (by decide +kernel) ⟨Nat.le_of_ble_eq_true rfl, Nat.le_of_ble_eq_true rfl⟩) ⟨fun a9 U g mk q => by obtain ⟨q0, q1, qP, qK, qD, qN⟩ := q; exact ⟨q0, q1, qP, va_K.moved (u := U) (U := U.calling g mk a9) (Vm.Alike.refl U.vm) qK, qD, pw_N.same (u := U) (U := U.calling g mk a9) rfl qN⟩, va_recv hK hP (ci := 6) (q0 := 2) rfl rfl, fun U hU hW => ⟨rfl, by rw [hU], by rw [hU]; exact hP, va_K.moved hW.alike hK, hD.weaken (fun _ _ _ _ => trivial), pw_N.warm hW hN⟩⟩ rfl rfl hl.1 rfl (lv_room (Nat.le_of_ble_eq_true rfl)) dX1_weigh_112 ⟨Nat.le_of_ble_eq_true rfl, Nat.le_of_ble_eq_true rfl⟩) hS (fun q _ h => hFc q h) hFc (fun r17 u t H1 locs ht hvm hw hB hz1 hk1 hS => ?_)
        replace hP := hB.1
        rw [ht] at hP
        replace hD : va_D A (xW h a e cI cJ cO cE L11 I7 M J n cap fE sd si sa dl) := hB.2.weaken (fun _ q _ h9 => hFc q.1 h9)
        clear hB
        generalize H1 = H at hP hS ⊢
        replace hP : va_P (dC, dI) vwCl (xW h a e cI cJ cO cE L11 I7 M J n cap fE sd si sa dl) H := hP
        refine va_put (D := (dC, dI)) (ci := 2) (fs := [.ref (a 1), .long (L11 2), .long (L11 3), .long (L11 4), .int (I7 8)]) (v := .long r17) (ty := .long) (C := RX1) (T := TX1) (N := 5) hx hb hts in_x_weigh_X1 tyX1 tyX1_ok nmX1 hown hK hP hD hS 13 rfl rfl 3 (by decide) (hts (.fieldLink RX1 29 "ServiceTree$Draft" "stops" "J") (by decide +kernel)) (fun _ h9 => h9) rfl (by decide +kernel) rfl rfl (Nat.le_of_ble_eq_true rfl) dX1_weigh_115 (fun H locs hP hD hS => ?_)
        replace hP : va_P (dC, dI) vwCl ((xW h a e cI cJ cO cE L11 I7 M J n cap fE sd si sa dl).set 13 (a 2, .inr (2, [.ref (a 1), .long (L11 2), .long (L11 3), .long r17, .int (I7 8)]))) H := hP
        replace hD : va_D A ((xW h a e cI cJ cO cE L11 I7 M J n cap fE sd si sa dl).set 13 (a 2, .inr (2, [.ref (a 1), .long (L11 2), .long (L11 3), .long r17, .int (I7 8)]))) := hD
        rw [xF_L4] at hP hD
        obtain ⟨L18, eL18⟩ : ∃ f9 : Nat → Int64, f9 = va_up L11 4 r17 := ⟨_, rfl⟩
        rw [← eL18] at hP hD
        replace hUL : ∀ j9 : Nat, j9 ∉ ([2, 3, 4] : List Nat) → L18 j9 = L j9 := by rw [eL18]; exact mw_up (by decide) hUL
        refine lv_aload_n hx hb dX1_weigh_118 rfl (lv_at hl 3 rfl) ?_
        refine va_get (D := (dC, dI)) (ci := 2) (v := .long (L18 4)) (C := RX1) (T := TX1) (N := 5) hx hb hts in_x_weigh_X1 hown hK hP 13 rfl rfl 3 (by decide) (hts (.fieldLink RX1 29 "ServiceTree$Draft" "stops" "J") (by decide +kernel)) (fun _ h9 => h9) rfl dX1_weigh_119 ?_
        refine p1_topr (v := .long r17) (congrArg Value.long (by rw [eL18]; exact va_up_self _ _ _)) ?_
        refine lv_aload_n hx hb dX1_weigh_122 rfl (lv_at hl 3 rfl) ?_
        refine va_get (D := (dC, dI)) (ci := 2) (v := .long (L18 2)) (C := RX1) (T := TX1) (N := 5) hx hb hts in_x_weigh_X1 hown hK hP 13 rfl rfl 1 (by decide) (hts (.fieldLink RX1 15 "ServiceTree$Draft" "members" "J") (by decide +kernel)) (fun _ h9 => h9) rfl dX1_weigh_123 ?_
        refine p1_topr (v := .long x12) (congrArg Value.long (by rw [eL18, va_up_ne _ _ (by decide)]; exact ex12.symm)) ?_
        refine lv_land hx hb dX1_weigh_126 ?_
        refine lv_topl (fun x19 ex19 => ?_)
        refine lv_lconst (v := 0) hx hb dX1_weigh_127 (by decide) ?_
        refine W.lcmp hx hb dX1_weigh_128 ?_
        refine lv_topi (fun x20 ex20 => ?_)
        refine lv_if_eq (tgt := 135) hx hb dX1_weigh_129 (by decide) (fun c21 => ?_) (fun c21 => ?_)
        · refine lv_aload_n hx hb dX1_weigh_135 rfl (lv_at hl 3 rfl) ?_
          refine lv_aload_n hx hb dX1_weigh_136 rfl (lv_at hl 3 rfl) ?_
          refine va_get (D := (dC, dI)) (ci := 2) (v := .long (L18 2)) (C := RX1) (T := TX1) (N := 5) hx hb hts in_x_weigh_X1 hown hK hP 13 rfl rfl 1 (by decide) (hts (.fieldLink RX1 15 "ServiceTree$Draft" "members" "J") (by decide +kernel)) (fun _ h9 => h9) rfl dX1_weigh_137 ?_
          refine p1_topr (v := .long x12) (congrArg Value.long (by rw [eL18, va_up_ne _ _ (by decide)]; exact ex12.symm)) ?_
          refine lv_lload_n hx hb dX1_weigh_140 rfl (lv_at hl 6 rfl) ?_
          refine lv_ldc2 (v := (-1)) hx hb hown (hts (.constantLong RX1 32 (-1)) (by decide +kernel)) dX1_weigh_141 ?_
          refine lv_lxor hx hb dX1_weigh_144 ?_
          refine lv_topl (fun x22 ex22 => ?_)
          refine lv_land hx hb dX1_weigh_145 ?_
          refine lv_topl (fun x23 ex23 => ?_)
          refine va_put (D := (dC, dI)) (ci := 2) (fs := [.ref (a 1), .long (L18 2), .long (L18 3), .long (L18 4), .int (I7 8)]) (v := .long x23) (ty := .long) (C := RX1) (T := TX1) (N := 5) hx hb hts in_x_weigh_X1 tyX1 tyX1_ok nmX1 hown hK hP hD hS 13 rfl rfl 2 (by decide) (hts (.fieldLink RX1 46 "ServiceTree$Draft" "starts" "J") (by decide +kernel)) (fun _ h9 => h9) rfl (by decide +kernel) rfl rfl (Nat.le_of_ble_eq_true rfl) dX1_weigh_146 (fun H locs hP hD hS => ?_)
          replace hP : va_P (dC, dI) vwCl ((xW h a e cI cJ cO cE L18 I7 M J n cap fE sd si sa dl).set 13 (a 2, .inr (2, [.ref (a 1), .long (L18 2), .long x23, .long (L18 4), .int (I7 8)]))) H := hP
          replace hD : va_D A ((xW h a e cI cJ cO cE L18 I7 M J n cap fE sd si sa dl).set 13 (a 2, .inr (2, [.ref (a 1), .long (L18 2), .long x23, .long (L18 4), .int (I7 8)]))) := hD
          rw [xF_L3] at hP hD
          obtain ⟨L24, eL24⟩ : ∃ f9 : Nat → Int64, f9 = va_up L18 3 x23 := ⟨_, rfl⟩
          rw [← eL24] at hP hD
          replace hUL : ∀ j9 : Nat, j9 ∉ ([2, 3, 4] : List Nat) → L24 j9 = L j9 := by rw [eL24]; exact mw_up (by decide) hUL
          refine lv_aload_n hx hb dX1_weigh_149 rfl (lv_at hl 3 rfl) ?_
          refine lv_aload_n hx hb dX1_weigh_150 rfl (lv_at hl 3 rfl) ?_
          refine va_get (D := (dC, dI)) (ci := 2) (v := .ref (a 1)) (C := RX1) (T := TX1) (N := 5) hx hb hts in_x_weigh_X1 hown hK hP 13 rfl rfl 0 (by decide) (hts (.fieldLink RX1 9 "ServiceTree$Draft" "relations" "LServiceTree$Relations;") (by decide +kernel)) (fun _ h9 => h9) rfl dX1_weigh_151 ?_
          refine lv_aload_n hx hb dX1_weigh_154 rfl (lv_at hl 3 rfl) ?_
          refine va_get (D := (dC, dI)) (ci := 2) (v := .long (L24 4)) (C := RX1) (T := TX1) (N := 5) hx hb hts in_x_weigh_X1 hown hK hP 13 rfl rfl 3 (by decide) (hts (.fieldLink RX1 29 "ServiceTree$Draft" "stops" "J") (by decide +kernel)) (fun _ h9 => h9) rfl dX1_weigh_155 ?_
          refine p1_topr (v := .long r17) (congrArg Value.long (by rw [eL24, va_up_ne _ _ (by decide)]; exact (by rw [eL18]; exact va_up_self _ _ _))) ?_
          have hFc := mw_free hD hS hA
          refine va_calli (va_runV (As := [.long r17]) (rest := [.ref (a 2)]) ⟨hx, hb, hml, hown, hts⟩ (c_x_shortestRing l dC dI h a e cI cJ cO cE L24 I7 M J n cap fE sd si sa dl (b) r17 H.size hX (by omega) ) (cwV 1 hts wc_x_weigh_x_shortestRing_49 rfl rfl rfl (by decide +kernel) ⟨Nat.le_of_ble_eq_true rfl, Nat.le_of_ble_eq_true rfl⟩) ⟨fun a9 U g mk q => by obtain ⟨q0, q1, qP, qK, qD, qN⟩ := q; exact ⟨q0, q1, qP, va_K.moved (u := U) (U := U.calling g mk a9) (Vm.Alike.refl U.vm) qK, qD, pw_N.same (u := U) (U := U.calling g mk a9) rfl qN⟩, va_recv hK hP (ci := 6) (q0 := 2) rfl rfl, fun U hU hW => ⟨rfl, by rw [hU], by rw [hU]; exact hP, va_K.moved hW.alike hK, hD.weaken (fun _ _ _ _ => trivial), pw_N.warm hW hN⟩⟩ rfl rfl hl.1 rfl (lv_room (Nat.le_of_ble_eq_true rfl)) dX1_weigh_158 ⟨Nat.le_of_ble_eq_true rfl, Nat.le_of_ble_eq_true rfl⟩) hS (fun q _ h => hFc q h) hFc (fun r25 u t H1 locs ht hvm hw hB hz1 hk1 hS => ?_)
          replace hP := hB.1
          rw [ht] at hP
          replace hD : va_D A (xW h a e cI cJ cO cE L24 I7 M J n cap fE sd si sa dl) := hB.2.weaken (fun _ q _ h9 => hFc q.1 h9)
          clear hB
          generalize H1 = H at hP hS ⊢
          replace hP : va_P (dC, dI) vwCl (xW h a e cI cJ cO cE L24 I7 M J n cap fE sd si sa dl) H := hP
          refine va_put (D := (dC, dI)) (ci := 2) (fs := [.ref (a 1), .long (L24 2), .long (L24 3), .long (L24 4), .int (I7 8)]) (v := .int r25) (ty := .int) (C := RX1) (T := TX1) (N := 5) hx hb hts in_x_weigh_X1 tyX1 tyX1_ok nmX1 hown hK hP hD hS 13 rfl rfl 4 (by decide) (hts (.fieldLink RX1 53 "ServiceTree$Draft" "ringSize" "I") (by decide +kernel)) (fun _ h9 => h9) rfl (by decide +kernel) rfl rfl (Nat.le_of_ble_eq_true rfl) dX1_weigh_161 (fun H locs hP hD hS => ?_)
          replace hP : va_P (dC, dI) vwCl ((xW h a e cI cJ cO cE L24 I7 M J n cap fE sd si sa dl).set 13 (a 2, .inr (2, [.ref (a 1), .long (L24 2), .long (L24 3), .long (L24 4), .int r25]))) H := hP
          replace hD : va_D A ((xW h a e cI cJ cO cE L24 I7 M J n cap fE sd si sa dl).set 13 (a 2, .inr (2, [.ref (a 1), .long (L24 2), .long (L24 3), .long (L24 4), .int r25]))) := hD
          rw [xF_I8] at hP hD
          obtain ⟨I26, eI26⟩ : ∃ f9 : Nat → Int32, f9 = va_up I7 8 r25 := ⟨_, rfl⟩
          rw [← eI26] at hP hD
          replace hX : InvX n cap fE sd dl (b) I26 J si := by rw [eI26]; exact hX.setI (by decide)
          replace hUI : ∀ j9 : Nat, j9 ∉ ([8] : List Nat) → I26 j9 = I j9 := by rw [eI26]; exact mw_up (by decide) hUI
          refine lv_aload_n hx hb dX1_weigh_164 rfl (lv_at hl 3 rfl) ?_
          refine va_get (D := (dC, dI)) (ci := 2) (v := .int (I26 8)) (C := RX1) (T := TX1) (N := 5) hx hb hts in_x_weigh_X1 hown hK hP 13 rfl rfl 4 (by decide) (hts (.fieldLink RX1 53 "ServiceTree$Draft" "ringSize" "I") (by decide +kernel)) (fun _ h9 => h9) rfl dX1_weigh_165 ?_
          refine p1_topr (v := .int r25) (congrArg Value.int (by rw [eI26]; exact va_up_self _ _ _)) ?_
          refine lv_if_le (tgt := 176) hx hb dX1_weigh_168 (by decide) (fun c27 => ?_) (fun c27 => ?_)
          · refine lv_aload_n hx hb dX1_weigh_176 rfl (lv_at hl 3 rfl) ?_
            refine va_get (D := (dC, dI)) (ci := 2) (v := .long (L24 3)) (C := RX1) (T := TX1) (N := 5) hx hb hts in_x_weigh_X1 hown hK hP 13 rfl rfl 2 (by decide) (hts (.fieldLink RX1 46 "ServiceTree$Draft" "starts" "J") (by decide +kernel)) (fun _ h9 => h9) rfl dX1_weigh_177 ?_
            refine p1_topr (v := .long x23) (congrArg Value.long (by rw [eL24]; exact va_up_self _ _ _)) ?_
            refine lv_aload_n hx hb dX1_weigh_180 rfl (lv_at hl 3 rfl) ?_
            refine va_get (D := (dC, dI)) (ci := 2) (v := .long (L24 4)) (C := RX1) (T := TX1) (N := 5) hx hb hts in_x_weigh_X1 hown hK hP 13 rfl rfl 3 (by decide) (hts (.fieldLink RX1 29 "ServiceTree$Draft" "stops" "J") (by decide +kernel)) (fun _ h9 => h9) rfl dX1_weigh_181 ?_
            refine p1_topr (v := .long r17) (congrArg Value.long (by rw [eL24, va_up_ne _ _ (by decide)]; exact (by rw [eL18]; exact va_up_self _ _ _))) ?_
            refine lv_lor hx hb dX1_weigh_184 ?_
            refine lv_topl (fun x28 ex28 => ?_)
            have hFc := mw_free hD hS hA
            refine va_calli (va_runS (As := [.long x28]) (rest := []) ⟨hx, hb, hml, hown, hts⟩ (c_x_bitCount l dC dI h a e cI cJ cO cE L24 I26 M J n cap fE sd si sa dl (b) x28 H.size hX (by omega) ) (va_cwS 1 hts wc_x_weigh_x_bitCount_57 rfl rfl rfl (by decide +kernel) ⟨Nat.le_of_ble_eq_true rfl, Nat.le_of_ble_eq_true rfl⟩) ⟨fun a9 U g mk q => by obtain ⟨q0, q1, qP, qK, qD, qN⟩ := q; exact ⟨q0, q1, qP, va_K.moved (u := U) (U := U.calling g mk a9) (Vm.Alike.refl U.vm) qK, qD, pw_N.same (u := U) (U := U.calling g mk a9) rfl qN⟩, fun U hU hW => ⟨rfl, by rw [hU], by rw [hU]; exact hP, va_K.moved hW.alike hK, hD.weaken (fun _ _ _ _ => trivial), pw_N.warm hW hN⟩⟩ rfl rfl hl.1 rfl (lv_room (Nat.le_of_ble_eq_true rfl)) dX1_weigh_185 ⟨Nat.le_of_ble_eq_true rfl, Nat.le_of_ble_eq_true rfl⟩) hS (fun q _ h => hFc q h) hFc (fun r29 u t H1 locs ht hvm hw hB hz1 hk1 hS => ?_)
            replace hP := hB.1
            rw [ht] at hP
            replace hD : va_D A (xW h a e cI cJ cO cE L24 I26 M J n cap fE sd si sa dl) := hB.2.weaken (fun _ q _ h9 => hFc q.1 h9)
            clear hB
            generalize H1 = H at hP hS ⊢
            replace hP : va_P (dC, dI) vwCl (xW h a e cI cJ cO cE L24 I26 M J n cap fE sd si sa dl) H := hP
            exact W.iret (v := r29) hx hb hr (fun t ht hW => ⟨⟨r29, (L24, I26), rfl, ⟨hX.mono (by omega), hUL, hUI, trivial⟩, by rw [ht]; exact hP, hD⟩, hS.F ht⟩) hS.2.2 dX1_weigh_188
          · refine lv_bipush (v := (-5)) hx hb dX1_weigh_171 (by decide) ?_
            refine lv_goto (tgt := 188) hx hb dX1_weigh_173 (by decide) ?_
            exact W.iret (v := (-5)) hx hb hr (fun t ht hW => ⟨⟨(-5), (L24, I26), rfl, ⟨hX.mono (by omega), hUL, hUI, trivial⟩, by rw [ht]; exact hP, hD⟩, hS.F ht⟩) hS.2.2 dX1_weigh_188
        · refine lv_bipush (v := (-4)) hx hb dX1_weigh_132 (by decide) ?_
          exact W.iret (v := (-4)) hx hb hr (fun t ht hW => ⟨⟨(-4), (L18, I7), rfl, ⟨hX.mono (by omega), hUL, hUI, trivial⟩, by rw [ht]; exact hP, hD⟩, hS.F ht⟩) hS.2.2 dX1_weigh_134
      · refine lv_aload_n hx hb dX1_weigh_85 rfl (lv_at hl 2 rfl) ?_
        refine va_get (D := (dC, dI)) (ci := 2) (v := .long (L11 2)) (C := RX1) (T := TX1) (N := 5) hx hb hts in_x_weigh_X1 hown hK hP 13 rfl rfl 1 (by decide) (hts (.fieldLink RX1 15 "ServiceTree$Draft" "members" "J") (by decide +kernel)) (fun _ h9 => h9) rfl dX1_weigh_86 ?_
        refine p1_topr (v := .long x12) (congrArg Value.long ex12.symm) ?_
        refine lv_ldc2 (v := (-1)) hx hb hown (hts (.constantLong RX1 32 (-1)) (by decide +kernel)) dX1_weigh_89 ?_
        refine lv_lxor hx hb dX1_weigh_92 ?_
        refine lv_topl (fun x30 ex30 => ?_)
        refine lv_goto (tgt := 97) hx hb dX1_weigh_93 (by decide) ?_
        refine lv_lor hx hb dX1_weigh_97 ?_
        refine lv_topl (fun x31 ex31 => ?_)
        refine lv_lstore (lv' := [(10, .long x31), (9, .int r5), (7, .long x1), (0, .ref (a 2)), (1, .int p0), (2, .int p1), (3, .long p2), (5, .long p3)]) hx hb dX1_weigh_98 hl (by decide) rfl (fun ls hl => ?_)
        refine lv_aload_n hx hb dX1_weigh_100 rfl (lv_at hl 3 rfl) ?_
        refine lv_aload_n hx hb dX1_weigh_101 rfl (lv_at hl 3 rfl) ?_
        refine va_get (D := (dC, dI)) (ci := 2) (v := .ref (a 1)) (C := RX1) (T := TX1) (N := 5) hx hb hts in_x_weigh_X1 hown hK hP 13 rfl rfl 0 (by decide) (hts (.fieldLink RX1 9 "ServiceTree$Draft" "relations" "LServiceTree$Relations;") (by decide +kernel)) (fun _ h9 => h9) rfl dX1_weigh_102 ?_
        refine lv_lload hx hb dX1_weigh_105 (lv_at hl 0 rfl) ?_
        refine lv_lload hx hb dX1_weigh_107 (lv_at hl 2 rfl) ?_
        refine lv_land hx hb dX1_weigh_109 ?_
        refine lv_topl (fun x32 ex32 => ?_)
        refine lv_lload hx hb dX1_weigh_110 (lv_at hl 2 rfl) ?_
        have hFc := mw_free hD hS hA
        refine va_calll (va_runV (As := [.long x32, .long x1]) (rest := [.ref (a 2)]) ⟨hx, hb, hml, hown, hts⟩ (c_x_withNeeders l dC dI h a e cI cJ cO cE L11 I7 M J n cap fE sd si sa dl (b) x32 x1 H.size hX (by omega) ) (cwV 2 hts wc_x_weigh_x_withNeeders_23 rfl rfl rfl (by decide +kernel) ⟨Nat.le_of_ble_eq_true rfl, Nat.le_of_ble_eq_true rfl⟩) ⟨fun a9 U g mk q => by obtain ⟨q0, q1, qP, qK, qD, qN⟩ := q; exact ⟨q0, q1, qP, va_K.moved (u := U) (U := U.calling g mk a9) (Vm.Alike.refl U.vm) qK, qD, pw_N.same (u := U) (U := U.calling g mk a9) rfl qN⟩, va_recv hK hP (ci := 6) (q0 := 2) rfl rfl, fun U hU hW => ⟨rfl, by rw [hU], by rw [hU]; exact hP, va_K.moved hW.alike hK, hD.weaken (fun _ _ _ _ => trivial), pw_N.warm hW hN⟩⟩ rfl rfl hl.1 rfl (lv_room (Nat.le_of_ble_eq_true rfl)) dX1_weigh_112 ⟨Nat.le_of_ble_eq_true rfl, Nat.le_of_ble_eq_true rfl⟩) hS (fun q _ h => hFc q h) hFc (fun r33 u t H1 locs ht hvm hw hB hz1 hk1 hS => ?_)
        replace hP := hB.1
        rw [ht] at hP
        replace hD : va_D A (xW h a e cI cJ cO cE L11 I7 M J n cap fE sd si sa dl) := hB.2.weaken (fun _ q _ h9 => hFc q.1 h9)
        clear hB
        generalize H1 = H at hP hS ⊢
        replace hP : va_P (dC, dI) vwCl (xW h a e cI cJ cO cE L11 I7 M J n cap fE sd si sa dl) H := hP
        refine va_put (D := (dC, dI)) (ci := 2) (fs := [.ref (a 1), .long (L11 2), .long (L11 3), .long (L11 4), .int (I7 8)]) (v := .long r33) (ty := .long) (C := RX1) (T := TX1) (N := 5) hx hb hts in_x_weigh_X1 tyX1 tyX1_ok nmX1 hown hK hP hD hS 13 rfl rfl 3 (by decide) (hts (.fieldLink RX1 29 "ServiceTree$Draft" "stops" "J") (by decide +kernel)) (fun _ h9 => h9) rfl (by decide +kernel) rfl rfl (Nat.le_of_ble_eq_true rfl) dX1_weigh_115 (fun H locs hP hD hS => ?_)
        replace hP : va_P (dC, dI) vwCl ((xW h a e cI cJ cO cE L11 I7 M J n cap fE sd si sa dl).set 13 (a 2, .inr (2, [.ref (a 1), .long (L11 2), .long (L11 3), .long r33, .int (I7 8)]))) H := hP
        replace hD : va_D A ((xW h a e cI cJ cO cE L11 I7 M J n cap fE sd si sa dl).set 13 (a 2, .inr (2, [.ref (a 1), .long (L11 2), .long (L11 3), .long r33, .int (I7 8)]))) := hD
        rw [xF_L4] at hP hD
        obtain ⟨L34, eL34⟩ : ∃ f9 : Nat → Int64, f9 = va_up L11 4 r33 := ⟨_, rfl⟩
        rw [← eL34] at hP hD
        replace hUL : ∀ j9 : Nat, j9 ∉ ([2, 3, 4] : List Nat) → L34 j9 = L j9 := by rw [eL34]; exact mw_up (by decide) hUL
        refine lv_aload_n hx hb dX1_weigh_118 rfl (lv_at hl 3 rfl) ?_
        refine va_get (D := (dC, dI)) (ci := 2) (v := .long (L34 4)) (C := RX1) (T := TX1) (N := 5) hx hb hts in_x_weigh_X1 hown hK hP 13 rfl rfl 3 (by decide) (hts (.fieldLink RX1 29 "ServiceTree$Draft" "stops" "J") (by decide +kernel)) (fun _ h9 => h9) rfl dX1_weigh_119 ?_
        refine p1_topr (v := .long r33) (congrArg Value.long (by rw [eL34]; exact va_up_self _ _ _)) ?_
        refine lv_aload_n hx hb dX1_weigh_122 rfl (lv_at hl 3 rfl) ?_
        refine va_get (D := (dC, dI)) (ci := 2) (v := .long (L34 2)) (C := RX1) (T := TX1) (N := 5) hx hb hts in_x_weigh_X1 hown hK hP 13 rfl rfl 1 (by decide) (hts (.fieldLink RX1 15 "ServiceTree$Draft" "members" "J") (by decide +kernel)) (fun _ h9 => h9) rfl dX1_weigh_123 ?_
        refine p1_topr (v := .long x12) (congrArg Value.long (by rw [eL34, va_up_ne _ _ (by decide)]; exact ex12.symm)) ?_
        refine lv_land hx hb dX1_weigh_126 ?_
        refine lv_topl (fun x35 ex35 => ?_)
        refine lv_lconst (v := 0) hx hb dX1_weigh_127 (by decide) ?_
        refine W.lcmp hx hb dX1_weigh_128 ?_
        refine lv_topi (fun x36 ex36 => ?_)
        refine lv_if_eq (tgt := 135) hx hb dX1_weigh_129 (by decide) (fun c37 => ?_) (fun c37 => ?_)
        · refine lv_aload_n hx hb dX1_weigh_135 rfl (lv_at hl 3 rfl) ?_
          refine lv_aload_n hx hb dX1_weigh_136 rfl (lv_at hl 3 rfl) ?_
          refine va_get (D := (dC, dI)) (ci := 2) (v := .long (L34 2)) (C := RX1) (T := TX1) (N := 5) hx hb hts in_x_weigh_X1 hown hK hP 13 rfl rfl 1 (by decide) (hts (.fieldLink RX1 15 "ServiceTree$Draft" "members" "J") (by decide +kernel)) (fun _ h9 => h9) rfl dX1_weigh_137 ?_
          refine p1_topr (v := .long x12) (congrArg Value.long (by rw [eL34, va_up_ne _ _ (by decide)]; exact ex12.symm)) ?_
          refine lv_lload_n hx hb dX1_weigh_140 rfl (lv_at hl 6 rfl) ?_
          refine lv_ldc2 (v := (-1)) hx hb hown (hts (.constantLong RX1 32 (-1)) (by decide +kernel)) dX1_weigh_141 ?_
          refine lv_lxor hx hb dX1_weigh_144 ?_
          refine lv_topl (fun x38 ex38 => ?_)
          refine lv_land hx hb dX1_weigh_145 ?_
          refine lv_topl (fun x39 ex39 => ?_)
          refine va_put (D := (dC, dI)) (ci := 2) (fs := [.ref (a 1), .long (L34 2), .long (L34 3), .long (L34 4), .int (I7 8)]) (v := .long x39) (ty := .long) (C := RX1) (T := TX1) (N := 5) hx hb hts in_x_weigh_X1 tyX1 tyX1_ok nmX1 hown hK hP hD hS 13 rfl rfl 2 (by decide) (hts (.fieldLink RX1 46 "ServiceTree$Draft" "starts" "J") (by decide +kernel)) (fun _ h9 => h9) rfl (by decide +kernel) rfl rfl (Nat.le_of_ble_eq_true rfl) dX1_weigh_146 (fun H locs hP hD hS => ?_)
          replace hP : va_P (dC, dI) vwCl ((xW h a e cI cJ cO cE L34 I7 M J n cap fE sd si sa dl).set 13 (a 2, .inr (2, [.ref (a 1), .long (L34 2), .long x39, .long (L34 4), .int (I7 8)]))) H := hP
          replace hD : va_D A ((xW h a e cI cJ cO cE L34 I7 M J n cap fE sd si sa dl).set 13 (a 2, .inr (2, [.ref (a 1), .long (L34 2), .long x39, .long (L34 4), .int (I7 8)]))) := hD
          rw [xF_L3] at hP hD
          obtain ⟨L40, eL40⟩ : ∃ f9 : Nat → Int64, f9 = va_up L34 3 x39 := ⟨_, rfl⟩
          rw [← eL40] at hP hD
          replace hUL : ∀ j9 : Nat, j9 ∉ ([2, 3, 4] : List Nat) → L40 j9 = L j9 := by rw [eL40]; exact mw_up (by decide) hUL
          refine lv_aload_n hx hb dX1_weigh_149 rfl (lv_at hl 3 rfl) ?_
          refine lv_aload_n hx hb dX1_weigh_150 rfl (lv_at hl 3 rfl) ?_
          refine va_get (D := (dC, dI)) (ci := 2) (v := .ref (a 1)) (C := RX1) (T := TX1) (N := 5) hx hb hts in_x_weigh_X1 hown hK hP 13 rfl rfl 0 (by decide) (hts (.fieldLink RX1 9 "ServiceTree$Draft" "relations" "LServiceTree$Relations;") (by decide +kernel)) (fun _ h9 => h9) rfl dX1_weigh_151 ?_
          refine lv_aload_n hx hb dX1_weigh_154 rfl (lv_at hl 3 rfl) ?_
          refine va_get (D := (dC, dI)) (ci := 2) (v := .long (L40 4)) (C := RX1) (T := TX1) (N := 5) hx hb hts in_x_weigh_X1 hown hK hP 13 rfl rfl 3 (by decide) (hts (.fieldLink RX1 29 "ServiceTree$Draft" "stops" "J") (by decide +kernel)) (fun _ h9 => h9) rfl dX1_weigh_155 ?_
          refine p1_topr (v := .long r33) (congrArg Value.long (by rw [eL40, va_up_ne _ _ (by decide)]; exact (by rw [eL34]; exact va_up_self _ _ _))) ?_
          have hFc := mw_free hD hS hA
          refine va_calli (va_runV (As := [.long r33]) (rest := [.ref (a 2)]) ⟨hx, hb, hml, hown, hts⟩ (c_x_shortestRing l dC dI h a e cI cJ cO cE L40 I7 M J n cap fE sd si sa dl (b) r33 H.size hX (by omega) ) (cwV 1 hts wc_x_weigh_x_shortestRing_49 rfl rfl rfl (by decide +kernel) ⟨Nat.le_of_ble_eq_true rfl, Nat.le_of_ble_eq_true rfl⟩) ⟨fun a9 U g mk q => by obtain ⟨q0, q1, qP, qK, qD, qN⟩ := q; exact ⟨q0, q1, qP, va_K.moved (u := U) (U := U.calling g mk a9) (Vm.Alike.refl U.vm) qK, qD, pw_N.same (u := U) (U := U.calling g mk a9) rfl qN⟩, va_recv hK hP (ci := 6) (q0 := 2) rfl rfl, fun U hU hW => ⟨rfl, by rw [hU], by rw [hU]; exact hP, va_K.moved hW.alike hK, hD.weaken (fun _ _ _ _ => trivial), pw_N.warm hW hN⟩⟩ rfl rfl hl.1 rfl (lv_room (Nat.le_of_ble_eq_true rfl)) dX1_weigh_158 ⟨Nat.le_of_ble_eq_true rfl, Nat.le_of_ble_eq_true rfl⟩) hS (fun q _ h => hFc q h) hFc (fun r41 u t H1 locs ht hvm hw hB hz1 hk1 hS => ?_)
          replace hP := hB.1
          rw [ht] at hP
          replace hD : va_D A (xW h a e cI cJ cO cE L40 I7 M J n cap fE sd si sa dl) := hB.2.weaken (fun _ q _ h9 => hFc q.1 h9)
          clear hB
          generalize H1 = H at hP hS ⊢
          replace hP : va_P (dC, dI) vwCl (xW h a e cI cJ cO cE L40 I7 M J n cap fE sd si sa dl) H := hP
          refine va_put (D := (dC, dI)) (ci := 2) (fs := [.ref (a 1), .long (L40 2), .long (L40 3), .long (L40 4), .int (I7 8)]) (v := .int r41) (ty := .int) (C := RX1) (T := TX1) (N := 5) hx hb hts in_x_weigh_X1 tyX1 tyX1_ok nmX1 hown hK hP hD hS 13 rfl rfl 4 (by decide) (hts (.fieldLink RX1 53 "ServiceTree$Draft" "ringSize" "I") (by decide +kernel)) (fun _ h9 => h9) rfl (by decide +kernel) rfl rfl (Nat.le_of_ble_eq_true rfl) dX1_weigh_161 (fun H locs hP hD hS => ?_)
          replace hP : va_P (dC, dI) vwCl ((xW h a e cI cJ cO cE L40 I7 M J n cap fE sd si sa dl).set 13 (a 2, .inr (2, [.ref (a 1), .long (L40 2), .long (L40 3), .long (L40 4), .int r41]))) H := hP
          replace hD : va_D A ((xW h a e cI cJ cO cE L40 I7 M J n cap fE sd si sa dl).set 13 (a 2, .inr (2, [.ref (a 1), .long (L40 2), .long (L40 3), .long (L40 4), .int r41]))) := hD
          rw [xF_I8] at hP hD
          obtain ⟨I42, eI42⟩ : ∃ f9 : Nat → Int32, f9 = va_up I7 8 r41 := ⟨_, rfl⟩
          rw [← eI42] at hP hD
          replace hX : InvX n cap fE sd dl (b) I42 J si := by rw [eI42]; exact hX.setI (by decide)
          replace hUI : ∀ j9 : Nat, j9 ∉ ([8] : List Nat) → I42 j9 = I j9 := by rw [eI42]; exact mw_up (by decide) hUI
          refine lv_aload_n hx hb dX1_weigh_164 rfl (lv_at hl 3 rfl) ?_
          refine va_get (D := (dC, dI)) (ci := 2) (v := .int (I42 8)) (C := RX1) (T := TX1) (N := 5) hx hb hts in_x_weigh_X1 hown hK hP 13 rfl rfl 4 (by decide) (hts (.fieldLink RX1 53 "ServiceTree$Draft" "ringSize" "I") (by decide +kernel)) (fun _ h9 => h9) rfl dX1_weigh_165 ?_
          refine p1_topr (v := .int r41) (congrArg Value.int (by rw [eI42]; exact va_up_self _ _ _)) ?_
          refine lv_if_le (tgt := 176) hx hb dX1_weigh_168 (by decide) (fun c43 => ?_) (fun c43 => ?_)
          · refine lv_aload_n hx hb dX1_weigh_176 rfl (lv_at hl 3 rfl) ?_
            refine va_get (D := (dC, dI)) (ci := 2) (v := .long (L40 3)) (C := RX1) (T := TX1) (N := 5) hx hb hts in_x_weigh_X1 hown hK hP 13 rfl rfl 2 (by decide) (hts (.fieldLink RX1 46 "ServiceTree$Draft" "starts" "J") (by decide +kernel)) (fun _ h9 => h9) rfl dX1_weigh_177 ?_
            refine p1_topr (v := .long x39) (congrArg Value.long (by rw [eL40]; exact va_up_self _ _ _)) ?_
            refine lv_aload_n hx hb dX1_weigh_180 rfl (lv_at hl 3 rfl) ?_
            refine va_get (D := (dC, dI)) (ci := 2) (v := .long (L40 4)) (C := RX1) (T := TX1) (N := 5) hx hb hts in_x_weigh_X1 hown hK hP 13 rfl rfl 3 (by decide) (hts (.fieldLink RX1 29 "ServiceTree$Draft" "stops" "J") (by decide +kernel)) (fun _ h9 => h9) rfl dX1_weigh_181 ?_
            refine p1_topr (v := .long r33) (congrArg Value.long (by rw [eL40, va_up_ne _ _ (by decide)]; exact (by rw [eL34]; exact va_up_self _ _ _))) ?_
            refine lv_lor hx hb dX1_weigh_184 ?_
            refine lv_topl (fun x44 ex44 => ?_)
            have hFc := mw_free hD hS hA
            refine va_calli (va_runS (As := [.long x44]) (rest := []) ⟨hx, hb, hml, hown, hts⟩ (c_x_bitCount l dC dI h a e cI cJ cO cE L40 I42 M J n cap fE sd si sa dl (b) x44 H.size hX (by omega) ) (va_cwS 1 hts wc_x_weigh_x_bitCount_57 rfl rfl rfl (by decide +kernel) ⟨Nat.le_of_ble_eq_true rfl, Nat.le_of_ble_eq_true rfl⟩) ⟨fun a9 U g mk q => by obtain ⟨q0, q1, qP, qK, qD, qN⟩ := q; exact ⟨q0, q1, qP, va_K.moved (u := U) (U := U.calling g mk a9) (Vm.Alike.refl U.vm) qK, qD, pw_N.same (u := U) (U := U.calling g mk a9) rfl qN⟩, fun U hU hW => ⟨rfl, by rw [hU], by rw [hU]; exact hP, va_K.moved hW.alike hK, hD.weaken (fun _ _ _ _ => trivial), pw_N.warm hW hN⟩⟩ rfl rfl hl.1 rfl (lv_room (Nat.le_of_ble_eq_true rfl)) dX1_weigh_185 ⟨Nat.le_of_ble_eq_true rfl, Nat.le_of_ble_eq_true rfl⟩) hS (fun q _ h => hFc q h) hFc (fun r45 u t H1 locs ht hvm hw hB hz1 hk1 hS => ?_)
            replace hP := hB.1
            rw [ht] at hP
            replace hD : va_D A (xW h a e cI cJ cO cE L40 I42 M J n cap fE sd si sa dl) := hB.2.weaken (fun _ q _ h9 => hFc q.1 h9)
            clear hB
            generalize H1 = H at hP hS ⊢
            replace hP : va_P (dC, dI) vwCl (xW h a e cI cJ cO cE L40 I42 M J n cap fE sd si sa dl) H := hP
            exact W.iret (v := r45) hx hb hr (fun t ht hW => ⟨⟨r45, (L40, I42), rfl, ⟨hX.mono (by omega), hUL, hUI, trivial⟩, by rw [ht]; exact hP, hD⟩, hS.F ht⟩) hS.2.2 dX1_weigh_188
          · refine lv_bipush (v := (-5)) hx hb dX1_weigh_171 (by decide) ?_
            refine lv_goto (tgt := 188) hx hb dX1_weigh_173 (by decide) ?_
            exact W.iret (v := (-5)) hx hb hr (fun t ht hW => ⟨⟨(-5), (L40, I42), rfl, ⟨hX.mono (by omega), hUL, hUI, trivial⟩, by rw [ht]; exact hP, hD⟩, hS.F ht⟩) hS.2.2 dX1_weigh_188
        · refine lv_bipush (v := (-4)) hx hb dX1_weigh_132 (by decide) ?_
          exact W.iret (v := (-4)) hx hb hr (fun t ht hW => ⟨⟨(-4), (L34, I7), rfl, ⟨hX.mono (by omega), hUL, hUI, trivial⟩, by rw [ht]; exact hP, hD⟩, hS.F ht⟩) hS.2.2 dX1_weigh_134
    · refine lv_iload hx hb dX1_weigh_56 (lv_at hl 0 rfl) ?_
      exact W.iret (v := r5) hx hb hr (fun t ht hW => ⟨⟨r5, (L6, I7), rfl, ⟨hX.mono (by omega), hUL, hUI, trivial⟩, by rw [ht]; exact hP, hD⟩, hS.F ht⟩) hS.2.2 dX1_weigh_58
  · refine lv_aload_n hx hb dX1_weigh_16 rfl (lv_at hl 1 rfl) ?_
    refine lv_aload_n hx hb dX1_weigh_17 rfl (lv_at hl 1 rfl) ?_
    refine va_get (D := (dC, dI)) (ci := 2) (v := .ref (a 1)) (C := RX1) (T := TX1) (N := 5) hx hb hts in_x_weigh_X1 hown hK hP 13 rfl rfl 0 (by decide) (hts (.fieldLink RX1 9 "ServiceTree$Draft" "relations" "LServiceTree$Relations;") (by decide +kernel)) (fun _ h9 => h9) rfl dX1_weigh_18 ?_
    refine lv_iload_n hx hb dX1_weigh_21 rfl (lv_at hl 3 rfl) ?_
    have hFc := mw_free hD hS hA
    refine va_calll (va_runSN (As := [.int p1]) (rest := [.ref (a 1), .ref (a 2)]) ⟨hx, hb, hml, hown, hts⟩ (c_x_only l dC dI h a e cI cJ cO cE L2 I M J n cap fE sd si sa dl (b) p1 H.size hX (by omega) ) ⟨va_cnB 1 hts wc_x_weigh_x_only_19 rfl rfl rfl (hN (.methodLinkNest RX1 19 yX8_only "ServiceTree") (by decide +kernel)) (hts (.initialized RX8) (by decide +kernel)) (by decide +kernel) ⟨Nat.le_of_ble_eq_true rfl, Nat.le_of_ble_eq_true rfl⟩, hts (.static yX8_only) (by decide +kernel), trivial⟩ ⟨fun a9 U g mk q => by obtain ⟨q0, q1, qP, qK, qD, qN⟩ := q; exact ⟨q0, q1, qP, va_K.moved (u := U) (U := U.calling g mk a9) (Vm.Alike.refl U.vm) qK, qD, pw_N.same (u := U) (U := U.calling g mk a9) rfl qN⟩, fun U hU hW => ⟨rfl, by rw [hU], by rw [hU]; exact hP, va_K.moved hW.alike hK, hD.weaken (fun _ _ _ _ => trivial), pw_N.warm hW hN⟩⟩ rfl rfl hl.1 rfl (lv_room (Nat.le_of_ble_eq_true rfl)) dX1_weigh_22 ⟨Nat.le_of_ble_eq_true rfl, Nat.le_of_ble_eq_true rfl⟩) hS (fun q _ h => hFc q h) hFc (fun r46 u t H1 locs ht hvm hw hB hz1 hk1 hS => ?_)
    replace hP := hB.1
    rw [ht] at hP
    replace hD : va_D A (xW h a e cI cJ cO cE L2 I M J n cap fE sd si sa dl) := hB.2.weaken (fun _ q _ h9 => hFc q.1 h9)
    clear hB
    generalize H1 = H at hP hS ⊢
    replace hP : va_P (dC, dI) vwCl (xW h a e cI cJ cO cE L2 I M J n cap fE sd si sa dl) H := hP
    refine lv_lload hx hb dX1_weigh_25 (lv_at hl 0 rfl) ?_
    have hFc := mw_free hD hS hA
    refine va_calll (va_runV (As := [.long r46, .long x1]) (rest := [.ref (a 2)]) ⟨hx, hb, hml, hown, hts⟩ (c_x_withNeeders l dC dI h a e cI cJ cO cE L2 I M J n cap fE sd si sa dl (b) r46 x1 H.size hX (by omega) ) (cwV 2 hts wc_x_weigh_x_withNeeders_23 rfl rfl rfl (by decide +kernel) ⟨Nat.le_of_ble_eq_true rfl, Nat.le_of_ble_eq_true rfl⟩) ⟨fun a9 U g mk q => by obtain ⟨q0, q1, qP, qK, qD, qN⟩ := q; exact ⟨q0, q1, qP, va_K.moved (u := U) (U := U.calling g mk a9) (Vm.Alike.refl U.vm) qK, qD, pw_N.same (u := U) (U := U.calling g mk a9) rfl qN⟩, va_recv hK hP (ci := 6) (q0 := 2) rfl rfl, fun U hU hW => ⟨rfl, by rw [hU], by rw [hU]; exact hP, va_K.moved hW.alike hK, hD.weaken (fun _ _ _ _ => trivial), pw_N.warm hW hN⟩⟩ rfl rfl hl.1 rfl (lv_room (Nat.le_of_ble_eq_true rfl)) dX1_weigh_27 ⟨Nat.le_of_ble_eq_true rfl, Nat.le_of_ble_eq_true rfl⟩) hS (fun q _ h => hFc q h) hFc (fun r47 u t H1 locs ht hvm hw hB hz1 hk1 hS => ?_)
    replace hP := hB.1
    rw [ht] at hP
    replace hD : va_D A (xW h a e cI cJ cO cE L2 I M J n cap fE sd si sa dl) := hB.2.weaken (fun _ q _ h9 => hFc q.1 h9)
    clear hB
    generalize H1 = H at hP hS ⊢
    replace hP : va_P (dC, dI) vwCl (xW h a e cI cJ cO cE L2 I M J n cap fE sd si sa dl) H := hP
    refine lv_lload hx hb dX1_weigh_30 (lv_at hl 0 rfl) ?_
    refine lv_land hx hb dX1_weigh_32 ?_
    refine lv_topl (fun x48 ex48 => ?_)
    refine va_put (D := (dC, dI)) (ci := 2) (fs := [.ref (a 1), .long (L2 2), .long (L2 3), .long (L2 4), .int (I 8)]) (v := .long x48) (ty := .long) (C := RX1) (T := TX1) (N := 5) hx hb hts in_x_weigh_X1 tyX1 tyX1_ok nmX1 hown hK hP hD hS 13 rfl rfl 3 (by decide) (hts (.fieldLink RX1 29 "ServiceTree$Draft" "stops" "J") (by decide +kernel)) (fun _ h9 => h9) rfl (by decide +kernel) rfl rfl (Nat.le_of_ble_eq_true rfl) dX1_weigh_33 (fun H locs hP hD hS => ?_)
    replace hP : va_P (dC, dI) vwCl ((xW h a e cI cJ cO cE L2 I M J n cap fE sd si sa dl).set 13 (a 2, .inr (2, [.ref (a 1), .long (L2 2), .long (L2 3), .long x48, .int (I 8)]))) H := hP
    replace hD : va_D A ((xW h a e cI cJ cO cE L2 I M J n cap fE sd si sa dl).set 13 (a 2, .inr (2, [.ref (a 1), .long (L2 2), .long (L2 3), .long x48, .int (I 8)]))) := hD
    rw [xF_L4] at hP hD
    obtain ⟨L49, eL49⟩ : ∃ f9 : Nat → Int64, f9 = va_up L2 4 x48 := ⟨_, rfl⟩
    rw [← eL49] at hP hD
    replace hUL : ∀ j9 : Nat, j9 ∉ ([2, 3, 4] : List Nat) → L49 j9 = L j9 := by rw [eL49]; exact mw_up (by decide) hUL
    refine lv_goto (tgt := 135) hx hb dX1_weigh_36 (by decide) ?_
    refine lv_aload_n hx hb dX1_weigh_135 rfl (lv_at hl 1 rfl) ?_
    refine lv_aload_n hx hb dX1_weigh_136 rfl (lv_at hl 1 rfl) ?_
    refine va_get (D := (dC, dI)) (ci := 2) (v := .long (L49 2)) (C := RX1) (T := TX1) (N := 5) hx hb hts in_x_weigh_X1 hown hK hP 13 rfl rfl 1 (by decide) (hts (.fieldLink RX1 15 "ServiceTree$Draft" "members" "J") (by decide +kernel)) (fun _ h9 => h9) rfl dX1_weigh_137 ?_
    refine p1_topr (v := .long 0) (congrArg Value.long (by rw [eL49, va_up_ne _ _ (by decide)]; exact (by rw [eL2]; exact va_up_self _ _ _))) ?_
    refine lv_lload_n hx hb dX1_weigh_140 rfl (lv_at hl 4 rfl) ?_
    refine lv_ldc2 (v := (-1)) hx hb hown (hts (.constantLong RX1 32 (-1)) (by decide +kernel)) dX1_weigh_141 ?_
    refine lv_lxor hx hb dX1_weigh_144 ?_
    refine lv_topl (fun x50 ex50 => ?_)
    refine lv_land hx hb dX1_weigh_145 ?_
    refine lv_topl (fun x51 ex51 => ?_)
    refine va_put (D := (dC, dI)) (ci := 2) (fs := [.ref (a 1), .long (L49 2), .long (L49 3), .long (L49 4), .int (I 8)]) (v := .long x51) (ty := .long) (C := RX1) (T := TX1) (N := 5) hx hb hts in_x_weigh_X1 tyX1 tyX1_ok nmX1 hown hK hP hD hS 13 rfl rfl 2 (by decide) (hts (.fieldLink RX1 46 "ServiceTree$Draft" "starts" "J") (by decide +kernel)) (fun _ h9 => h9) rfl (by decide +kernel) rfl rfl (Nat.le_of_ble_eq_true rfl) dX1_weigh_146 (fun H locs hP hD hS => ?_)
    replace hP : va_P (dC, dI) vwCl ((xW h a e cI cJ cO cE L49 I M J n cap fE sd si sa dl).set 13 (a 2, .inr (2, [.ref (a 1), .long (L49 2), .long x51, .long (L49 4), .int (I 8)]))) H := hP
    replace hD : va_D A ((xW h a e cI cJ cO cE L49 I M J n cap fE sd si sa dl).set 13 (a 2, .inr (2, [.ref (a 1), .long (L49 2), .long x51, .long (L49 4), .int (I 8)]))) := hD
    rw [xF_L3] at hP hD
    obtain ⟨L52, eL52⟩ : ∃ f9 : Nat → Int64, f9 = va_up L49 3 x51 := ⟨_, rfl⟩
    rw [← eL52] at hP hD
    replace hUL : ∀ j9 : Nat, j9 ∉ ([2, 3, 4] : List Nat) → L52 j9 = L j9 := by rw [eL52]; exact mw_up (by decide) hUL
    refine lv_aload_n hx hb dX1_weigh_149 rfl (lv_at hl 1 rfl) ?_
    refine lv_aload_n hx hb dX1_weigh_150 rfl (lv_at hl 1 rfl) ?_
    refine va_get (D := (dC, dI)) (ci := 2) (v := .ref (a 1)) (C := RX1) (T := TX1) (N := 5) hx hb hts in_x_weigh_X1 hown hK hP 13 rfl rfl 0 (by decide) (hts (.fieldLink RX1 9 "ServiceTree$Draft" "relations" "LServiceTree$Relations;") (by decide +kernel)) (fun _ h9 => h9) rfl dX1_weigh_151 ?_
    refine lv_aload_n hx hb dX1_weigh_154 rfl (lv_at hl 1 rfl) ?_
    refine va_get (D := (dC, dI)) (ci := 2) (v := .long (L52 4)) (C := RX1) (T := TX1) (N := 5) hx hb hts in_x_weigh_X1 hown hK hP 13 rfl rfl 3 (by decide) (hts (.fieldLink RX1 29 "ServiceTree$Draft" "stops" "J") (by decide +kernel)) (fun _ h9 => h9) rfl dX1_weigh_155 ?_
    refine p1_topr (v := .long x48) (congrArg Value.long (by rw [eL52, va_up_ne _ _ (by decide)]; exact (by rw [eL49]; exact va_up_self _ _ _))) ?_
    have hFc := mw_free hD hS hA
    refine va_calli (va_runV (As := [.long x48]) (rest := [.ref (a 2)]) ⟨hx, hb, hml, hown, hts⟩ (c_x_shortestRing l dC dI h a e cI cJ cO cE L52 I M J n cap fE sd si sa dl (b) x48 H.size hX (by omega) ) (cwV 1 hts wc_x_weigh_x_shortestRing_49 rfl rfl rfl (by decide +kernel) ⟨Nat.le_of_ble_eq_true rfl, Nat.le_of_ble_eq_true rfl⟩) ⟨fun a9 U g mk q => by obtain ⟨q0, q1, qP, qK, qD, qN⟩ := q; exact ⟨q0, q1, qP, va_K.moved (u := U) (U := U.calling g mk a9) (Vm.Alike.refl U.vm) qK, qD, pw_N.same (u := U) (U := U.calling g mk a9) rfl qN⟩, va_recv hK hP (ci := 6) (q0 := 2) rfl rfl, fun U hU hW => ⟨rfl, by rw [hU], by rw [hU]; exact hP, va_K.moved hW.alike hK, hD.weaken (fun _ _ _ _ => trivial), pw_N.warm hW hN⟩⟩ rfl rfl hl.1 rfl (lv_room (Nat.le_of_ble_eq_true rfl)) dX1_weigh_158 ⟨Nat.le_of_ble_eq_true rfl, Nat.le_of_ble_eq_true rfl⟩) hS (fun q _ h => hFc q h) hFc (fun r53 u t H1 locs ht hvm hw hB hz1 hk1 hS => ?_)
    replace hP := hB.1
    rw [ht] at hP
    replace hD : va_D A (xW h a e cI cJ cO cE L52 I M J n cap fE sd si sa dl) := hB.2.weaken (fun _ q _ h9 => hFc q.1 h9)
    clear hB
    generalize H1 = H at hP hS ⊢
    replace hP : va_P (dC, dI) vwCl (xW h a e cI cJ cO cE L52 I M J n cap fE sd si sa dl) H := hP
    refine va_put (D := (dC, dI)) (ci := 2) (fs := [.ref (a 1), .long (L52 2), .long (L52 3), .long (L52 4), .int (I 8)]) (v := .int r53) (ty := .int) (C := RX1) (T := TX1) (N := 5) hx hb hts in_x_weigh_X1 tyX1 tyX1_ok nmX1 hown hK hP hD hS 13 rfl rfl 4 (by decide) (hts (.fieldLink RX1 53 "ServiceTree$Draft" "ringSize" "I") (by decide +kernel)) (fun _ h9 => h9) rfl (by decide +kernel) rfl rfl (Nat.le_of_ble_eq_true rfl) dX1_weigh_161 (fun H locs hP hD hS => ?_)
    replace hP : va_P (dC, dI) vwCl ((xW h a e cI cJ cO cE L52 I M J n cap fE sd si sa dl).set 13 (a 2, .inr (2, [.ref (a 1), .long (L52 2), .long (L52 3), .long (L52 4), .int r53]))) H := hP
    replace hD : va_D A ((xW h a e cI cJ cO cE L52 I M J n cap fE sd si sa dl).set 13 (a 2, .inr (2, [.ref (a 1), .long (L52 2), .long (L52 3), .long (L52 4), .int r53]))) := hD
    rw [xF_I8] at hP hD
    obtain ⟨I54, eI54⟩ : ∃ f9 : Nat → Int32, f9 = va_up I 8 r53 := ⟨_, rfl⟩
    rw [← eI54] at hP hD
    replace hX : InvX n cap fE sd dl (b) I54 J si := by rw [eI54]; exact hX.setI (by decide)
    replace hUI : ∀ j9 : Nat, j9 ∉ ([8] : List Nat) → I54 j9 = I j9 := by rw [eI54]; exact mw_up (by decide) hUI
    refine lv_aload_n hx hb dX1_weigh_164 rfl (lv_at hl 1 rfl) ?_
    refine va_get (D := (dC, dI)) (ci := 2) (v := .int (I54 8)) (C := RX1) (T := TX1) (N := 5) hx hb hts in_x_weigh_X1 hown hK hP 13 rfl rfl 4 (by decide) (hts (.fieldLink RX1 53 "ServiceTree$Draft" "ringSize" "I") (by decide +kernel)) (fun _ h9 => h9) rfl dX1_weigh_165 ?_
    refine p1_topr (v := .int r53) (congrArg Value.int (by rw [eI54]; exact va_up_self _ _ _)) ?_
    refine lv_if_le (tgt := 176) hx hb dX1_weigh_168 (by decide) (fun c55 => ?_) (fun c55 => ?_)
    · refine lv_aload_n hx hb dX1_weigh_176 rfl (lv_at hl 1 rfl) ?_
      refine va_get (D := (dC, dI)) (ci := 2) (v := .long (L52 3)) (C := RX1) (T := TX1) (N := 5) hx hb hts in_x_weigh_X1 hown hK hP 13 rfl rfl 2 (by decide) (hts (.fieldLink RX1 46 "ServiceTree$Draft" "starts" "J") (by decide +kernel)) (fun _ h9 => h9) rfl dX1_weigh_177 ?_
      refine p1_topr (v := .long x51) (congrArg Value.long (by rw [eL52]; exact va_up_self _ _ _)) ?_
      refine lv_aload_n hx hb dX1_weigh_180 rfl (lv_at hl 1 rfl) ?_
      refine va_get (D := (dC, dI)) (ci := 2) (v := .long (L52 4)) (C := RX1) (T := TX1) (N := 5) hx hb hts in_x_weigh_X1 hown hK hP 13 rfl rfl 3 (by decide) (hts (.fieldLink RX1 29 "ServiceTree$Draft" "stops" "J") (by decide +kernel)) (fun _ h9 => h9) rfl dX1_weigh_181 ?_
      refine p1_topr (v := .long x48) (congrArg Value.long (by rw [eL52, va_up_ne _ _ (by decide)]; exact (by rw [eL49]; exact va_up_self _ _ _))) ?_
      refine lv_lor hx hb dX1_weigh_184 ?_
      refine lv_topl (fun x56 ex56 => ?_)
      have hFc := mw_free hD hS hA
      refine va_calli (va_runS (As := [.long x56]) (rest := []) ⟨hx, hb, hml, hown, hts⟩ (c_x_bitCount l dC dI h a e cI cJ cO cE L52 I54 M J n cap fE sd si sa dl (b) x56 H.size hX (by omega) ) (va_cwS 1 hts wc_x_weigh_x_bitCount_57 rfl rfl rfl (by decide +kernel) ⟨Nat.le_of_ble_eq_true rfl, Nat.le_of_ble_eq_true rfl⟩) ⟨fun a9 U g mk q => by obtain ⟨q0, q1, qP, qK, qD, qN⟩ := q; exact ⟨q0, q1, qP, va_K.moved (u := U) (U := U.calling g mk a9) (Vm.Alike.refl U.vm) qK, qD, pw_N.same (u := U) (U := U.calling g mk a9) rfl qN⟩, fun U hU hW => ⟨rfl, by rw [hU], by rw [hU]; exact hP, va_K.moved hW.alike hK, hD.weaken (fun _ _ _ _ => trivial), pw_N.warm hW hN⟩⟩ rfl rfl hl.1 rfl (lv_room (Nat.le_of_ble_eq_true rfl)) dX1_weigh_185 ⟨Nat.le_of_ble_eq_true rfl, Nat.le_of_ble_eq_true rfl⟩) hS (fun q _ h => hFc q h) hFc (fun r57 u t H1 locs ht hvm hw hB hz1 hk1 hS => ?_)
      replace hP := hB.1
      rw [ht] at hP
      replace hD : va_D A (xW h a e cI cJ cO cE L52 I54 M J n cap fE sd si sa dl) := hB.2.weaken (fun _ q _ h9 => hFc q.1 h9)
      clear hB
      generalize H1 = H at hP hS ⊢
      replace hP : va_P (dC, dI) vwCl (xW h a e cI cJ cO cE L52 I54 M J n cap fE sd si sa dl) H := hP
      exact W.iret (v := r57) hx hb hr (fun t ht hW => ⟨⟨r57, (L52, I54), rfl, ⟨hX.mono (by omega), hUL, hUI, trivial⟩, by rw [ht]; exact hP, hD⟩, hS.F ht⟩) hS.2.2 dX1_weigh_188
    · refine lv_bipush (v := (-5)) hx hb dX1_weigh_171 (by decide) ?_
      refine lv_goto (tgt := 188) hx hb dX1_weigh_173 (by decide) ?_
      exact W.iret (v := (-5)) hx hb hr (fun t ht hW => ⟨⟨(-5), (L52, I54), rfl, ⟨hX.mono (by omega), hUL, hUI, trivial⟩, by rw [ht]; exact hP, hD⟩, hS.F ht⟩) hS.2.2 dX1_weigh_188
def wq_x_canRelate : List Cond := [.code yX8_canRelate cX8_canRelate 4 (some .boolean), .methodLink RX8 57 yX8_within, .static yX8_within, .initialized RX8, .methodLink RX8 82 yX8_exists, .instanceMethod yX8_exists, .selects RX8 yX8_exists yX8_exists] ++ (wq_x_within ++ (wq_x_exists))
set_option maxRecDepth 20000 in
theorem wi_x_canRelate : ∀ w ∈ wq_x_canRelate, w ∈ lw_tbl := List.forall_mem_append.mpr ⟨(by decide +kernel), List.forall_mem_append.mpr ⟨wi_x_within, wi_x_exists⟩⟩
set_option maxRecDepth 20000 in
theorem wg_x_canRelate : GoodIn wq_x_canRelate wq_x_canRelate := goodIn_sub (fun _ h => h) (by decide +kernel)
set_option maxRecDepth 20000 in
theorem wc_x_canRelate_x_within_57 : GoodIn wq_x_canRelate (va_wsS RX8 57 yX8_within wq_x_within) := goodIn_app (goodIn_of _ (by decide +kernel)) (fun w h => ⟨List.mem_append_right _ (List.mem_append_left _ (h)), (wg_x_within w h).2⟩)
set_option maxRecDepth 20000 in
theorem wc_x_canRelate_x_exists_82 : GoodIn wq_x_canRelate (wsV RX8 82 RX8 yX8_exists wq_x_exists) := goodIn_app (goodIn_of _ (by decide +kernel)) (fun w h => ⟨List.mem_append_right _ (List.mem_append_right _ (h)), (wg_x_exists w h).2⟩)
def rm_x_canRelate : Room := { frames := 2, cells := 0, slots := 0, locals := 43 }
set_option maxHeartbeats 4000000 in
set_option maxRecDepth 100000 in
theorem c_x_canRelate (l : Launch) (dC : Nat → ClassId) (dI : Nat → Nat → Nat) (h : Nat) (a : Nat → Nat) (e : Nat) (cI cJ cO cE : ClassId) (L : Nat → Int64) (I : Nat → Int32) (M : Nat → Nat → Int64) (J : Nat → Nat → Int32) (n cap : Nat) (fE : Nat → Option Nat) (sd : Nat → Nat → Nat) (si : Nat → Nat → Int32) (sa : Nat → Nat → Nat → Int32) (dl : Nat → Nat) (b : Nat) (p0 : Int32) (p1 : Int32) (p2 : Int32) (sz : Nat) (hX0 : InvX n cap fE sd dl b I J si) (hb0 : b + 0 < 2147483648)  : Met l yX8_canRelate wq_x_canRelate rm_x_canRelate (va_Pc [.ref h, .int p0, .int p1, .int p2] (fun U => U.heap.size = sz ∧ va_P (dC, dI) vwCl (xW h a e cI cJ cO cE L I M J n cap fE sd si sa dl) U.heap ∧ va_K (dC, dI) vwCl (xT cI cJ cO cE) U ∧ va_D (fun _ => True) (xW h a e cI cJ cO cE L I M J n cap fE sd si sa dl) ∧ pw_N U)) (va_Qi (fun (r : Int32) (u : Unit) => ((r = 1 ∧ ∃ ov av bv : Nat, ov < 4 ∧ av < n ∧ bv < n ∧ p0 = nI ov ∧ p1 = nI av ∧ p2 = nI bv) ∨ r = 0)) (fun (u : Unit) (t : State) => va_P (dC, dI) vwCl (xW h a e cI cJ cO cE L I M J n cap fE sd si sa dl) t.heap ∧ va_D (va_A (xW h a e cI cJ cO cE L I M J n cap fE sd si sa dl) sz) (xW h a e cI cJ cO cE L I M J n cap fE sd si sa dl)) (va_A (xW h a e cI cJ cO cE L I M J n cap fE sd si sa dl) sz)) 0 0 (va_A (xW h a e cI cJ cO cE L I M J n cap fE sd si sa dl) sz) := by
  have hn : n ≤ 40 := hX0.1.1
  have hX := hX0
  refine Met.ofW (cc := cX8_canRelate) (maxL := 4) (ret := (some .boolean)) (by decide) rfl ?_
  intro p e9 s m args below meth c s₁ B hml hv
  obtain ⟨rfl, hsz, hP, hK, hD0, hN⟩ := hv
  have hx := B.exec
  have hb := B.bytes
  have hr := B.returns
  have hts := atoms_spec (ws := wq_x_canRelate) B.pre
  have hown : s.vm.findClass RX8 = some m.cls := findClass_of_methodNamed B.named
  have hlocks := B.notSynchronized
  subst hsz
  have hD := hD0.self (sz := s.heap.size)
  generalize hAe : va_A (xW h a e cI cJ cO cE L I M J n cap fE sd si sa dl) s.heap.size = A at hD ⊢
  have hA : ∀ q : Nat, s.heap.size ≤ q → A q := fun q h => by rw [← hAe]; exact Or.inr h
  have hS : va_S A s.heap s.heap [] := va_S.rf
  have hl := lv_entry ([.ref h, .int p0, .int p1, .int p2]) (n := 4) (Nat.le_of_ble_eq_true rfl)
  rw [lg_entry_eq]
  generalize (lg_sl ([.ref h, .int p0, .int p1, .int p2]) ++ List.replicate (4 - (lg_sl ([.ref h, .int p0, .int p1, .int p2])).length) Slot.unset).toArray = ls at hl ⊢
  have hl : lv_has ls 4 [(0, .ref h), (1, .int p0), (2, .int p1), (3, .int p2)] := hl
  refine lv_iload_n hx hb dX8_canRelate_0 rfl (lv_at hl 1 rfl) ?_
  refine lv_iconst (v := 0) hx hb dX8_canRelate_1 (by decide) ?_
  refine lv_iconst (v := 3) hx hb dX8_canRelate_2 (by decide) ?_
  have hFc := mw_free hD hS hA
  refine va_calli (va_runS (As := [.int p0, .int 0, .int 3]) (rest := []) ⟨hx, hb, hml, hown, hts⟩ (c_x_within l dC dI h a e cI cJ cO cE L I M J n cap fE sd si sa dl (b) p0 0 3 s.heap.size hX (by omega) ) (va_cwS 3 hts wc_x_canRelate_x_within_57 rfl rfl rfl (by decide +kernel) ⟨Nat.le_of_ble_eq_true rfl, Nat.le_of_ble_eq_true rfl⟩) ⟨fun a9 U g mk q => by obtain ⟨q0, q1, qP, qK, qD, qN⟩ := q; exact ⟨q0, q1, qP, va_K.moved (u := U) (U := U.calling g mk a9) (Vm.Alike.refl U.vm) qK, qD, pw_N.same (u := U) (U := U.calling g mk a9) rfl qN⟩, fun U hU hW => ⟨rfl, by rw [hU], by rw [hU]; exact hP, va_K.moved hW.alike hK, hD.weaken (fun _ _ _ _ => trivial), pw_N.warm hW hN⟩⟩ rfl rfl hl.1 rfl (lv_room (Nat.le_of_ble_eq_true rfl)) dX8_canRelate_3 ⟨Nat.le_of_ble_eq_true rfl, Nat.le_of_ble_eq_true rfl⟩) hS (fun q _ h => hFc q h) hFc (fun r1 u t H1 locs ht hvm hw hB hz1 hk1 hS => ?_)
  replace hP := hB.1
  rw [ht] at hP
  replace hD : va_D A (xW h a e cI cJ cO cE L I M J n cap fE sd si sa dl) := hB.2.weaken (fun _ q _ h9 => hFc q.1 h9)
  clear hB
  generalize H1 = H at hP hS ⊢
  replace hP : va_P (dC, dI) vwCl (xW h a e cI cJ cO cE L I M J n cap fE sd si sa dl) H := hP
  rcases hw with ⟨rfl, haj2, hbj2⟩ | ⟨rfl, noj2⟩
  · obtain ⟨j2, hj2, ej2⟩ := nI_of2 (n := 3) (by decide) (xw_ge0 haj2) hbj2
    subst ej2
    refine lv_if_eq (tgt := 34) hx hb dX8_canRelate_6 (by decide) (fun c9 => absurd c9 (by decide)) (fun _ => ?_)
    refine lv_aload_n hx hb dX8_canRelate_9 rfl (lv_at hl 0 rfl) ?_
    refine lv_iload_n hx hb dX8_canRelate_10 rfl (lv_at hl 2 rfl) ?_
    have hFc := mw_free hD hS hA
    refine va_calli (va_runV (As := [.int p1]) (rest := []) ⟨hx, hb, hml, hown, hts⟩ (c_x_exists l dC dI h a e cI cJ cO cE L I M J n cap fE sd si sa dl (b) p1 H.size hX (by omega) ) (cwV 1 hts wc_x_canRelate_x_exists_82 rfl rfl rfl (by decide +kernel) ⟨Nat.le_of_ble_eq_true rfl, Nat.le_of_ble_eq_true rfl⟩) ⟨fun a9 U g mk q => by obtain ⟨q0, q1, qP, qK, qD, qN⟩ := q; exact ⟨q0, q1, qP, va_K.moved (u := U) (U := U.calling g mk a9) (Vm.Alike.refl U.vm) qK, qD, pw_N.same (u := U) (U := U.calling g mk a9) rfl qN⟩, va_recv hK hP (ci := 9) (q0 := 0) rfl rfl, fun U hU hW => ⟨rfl, by rw [hU], by rw [hU]; exact hP, va_K.moved hW.alike hK, hD.weaken (fun _ _ _ _ => trivial), pw_N.warm hW hN⟩⟩ rfl rfl hl.1 rfl (lv_room (Nat.le_of_ble_eq_true rfl)) dX8_canRelate_11 ⟨Nat.le_of_ble_eq_true rfl, Nat.le_of_ble_eq_true rfl⟩) hS (fun q _ h => hFc q h) hFc (fun r3 u t H1 locs ht hvm hw hB hz1 hk1 hS => ?_)
    replace hP := hB.1
    rw [ht] at hP
    replace hD : va_D A (xW h a e cI cJ cO cE L I M J n cap fE sd si sa dl) := hB.2.weaken (fun _ q _ h9 => hFc q.1 h9)
    clear hB
    generalize H1 = H at hP hS ⊢
    replace hP : va_P (dC, dI) vwCl (xW h a e cI cJ cO cE L I M J n cap fE sd si sa dl) H := hP
    rcases hw with ⟨rfl, j4, hj4, ej4⟩ | ⟨rfl, noj4⟩
    · subst ej4
      refine lv_if_eq (tgt := 34) hx hb dX8_canRelate_14 (by decide) (fun c9 => absurd c9 (by decide)) (fun _ => ?_)
      refine lv_aload_n hx hb dX8_canRelate_17 rfl (lv_at hl 0 rfl) ?_
      refine lv_iload_n hx hb dX8_canRelate_18 rfl (lv_at hl 3 rfl) ?_
      have hFc := mw_free hD hS hA
      refine va_calli (va_runV (As := [.int p2]) (rest := []) ⟨hx, hb, hml, hown, hts⟩ (c_x_exists l dC dI h a e cI cJ cO cE L I M J n cap fE sd si sa dl (b) p2 H.size hX (by omega) ) (cwV 1 hts wc_x_canRelate_x_exists_82 rfl rfl rfl (by decide +kernel) ⟨Nat.le_of_ble_eq_true rfl, Nat.le_of_ble_eq_true rfl⟩) ⟨fun a9 U g mk q => by obtain ⟨q0, q1, qP, qK, qD, qN⟩ := q; exact ⟨q0, q1, qP, va_K.moved (u := U) (U := U.calling g mk a9) (Vm.Alike.refl U.vm) qK, qD, pw_N.same (u := U) (U := U.calling g mk a9) rfl qN⟩, va_recv hK hP (ci := 9) (q0 := 0) rfl rfl, fun U hU hW => ⟨rfl, by rw [hU], by rw [hU]; exact hP, va_K.moved hW.alike hK, hD.weaken (fun _ _ _ _ => trivial), pw_N.warm hW hN⟩⟩ rfl rfl hl.1 rfl (lv_room (Nat.le_of_ble_eq_true rfl)) dX8_canRelate_19 ⟨Nat.le_of_ble_eq_true rfl, Nat.le_of_ble_eq_true rfl⟩) hS (fun q _ h => hFc q h) hFc (fun r5 u t H1 locs ht hvm hw hB hz1 hk1 hS => ?_)
      replace hP := hB.1
      rw [ht] at hP
      replace hD : va_D A (xW h a e cI cJ cO cE L I M J n cap fE sd si sa dl) := hB.2.weaken (fun _ q _ h9 => hFc q.1 h9)
      clear hB
      generalize H1 = H at hP hS ⊢
      replace hP : va_P (dC, dI) vwCl (xW h a e cI cJ cO cE L I M J n cap fE sd si sa dl) H := hP
      rcases hw with ⟨rfl, j6, hj6, ej6⟩ | ⟨rfl, noj6⟩
      · subst ej6
        refine lv_if_eq (tgt := 34) hx hb dX8_canRelate_22 (by decide) (fun c9 => absurd c9 (by decide)) (fun _ => ?_)
        refine lv_iload_n hx hb dX8_canRelate_25 rfl (lv_at hl 2 rfl) ?_
        refine lv_iload_n hx hb dX8_canRelate_26 rfl (lv_at hl 3 rfl) ?_
        refine lv_icmp_eq (tgt := 34) hx hb dX8_canRelate_27 (by decide) (fun c7 => ?_) (fun c7 => ?_)
        · replace c7 : j4 = j6 := (nI_eq (a := j4) (b := j6) (by omega) (by omega)).mp c7
          refine lv_iconst (v := 0) hx hb dX8_canRelate_34 (by decide) ?_
          exact W.zret (v := 0) hx hb hr (by decide) (fun t ht hW => ⟨⟨0, (), rfl, Or.inr rfl, by rw [ht]; exact hP, hD⟩, hS.F ht⟩) hS.2.2 dX8_canRelate_35
        · replace c7 : ¬ (j4 = j6) := fun q9 => c7 ((nI_eq (a := j4) (b := j6) (by omega) (by omega)).mpr q9)
          refine lv_iconst (v := 1) hx hb dX8_canRelate_30 (by decide) ?_
          refine lv_goto (tgt := 35) hx hb dX8_canRelate_31 (by decide) ?_
          exact W.zret (v := 1) hx hb hr (by decide) (fun t ht hW => ⟨⟨1, (), rfl, Or.inl ⟨rfl, j2, j4, j6, by omega, by omega, by omega, rfl, rfl, rfl⟩, by rw [ht]; exact hP, hD⟩, hS.F ht⟩) hS.2.2 dX8_canRelate_35
      · refine lv_if_eq (tgt := 34) hx hb dX8_canRelate_22 (by decide) (fun _ => ?_) (fun c9 => absurd (by decide) c9)
        refine lv_iconst (v := 0) hx hb dX8_canRelate_34 (by decide) ?_
        exact W.zret (v := 0) hx hb hr (by decide) (fun t ht hW => ⟨⟨0, (), rfl, Or.inr rfl, by rw [ht]; exact hP, hD⟩, hS.F ht⟩) hS.2.2 dX8_canRelate_35
    · refine lv_if_eq (tgt := 34) hx hb dX8_canRelate_14 (by decide) (fun _ => ?_) (fun c9 => absurd (by decide) c9)
      refine lv_iconst (v := 0) hx hb dX8_canRelate_34 (by decide) ?_
      exact W.zret (v := 0) hx hb hr (by decide) (fun t ht hW => ⟨⟨0, (), rfl, Or.inr rfl, by rw [ht]; exact hP, hD⟩, hS.F ht⟩) hS.2.2 dX8_canRelate_35
  · refine lv_if_eq (tgt := 34) hx hb dX8_canRelate_6 (by decide) (fun _ => ?_) (fun c9 => absurd (by decide) c9)
    refine lv_iconst (v := 0) hx hb dX8_canRelate_34 (by decide) ?_
    exact W.zret (v := 0) hx hb hr (by decide) (fun t ht hW => ⟨⟨0, (), rfl, Or.inr rfl, by rw [ht]; exact hP, hD⟩, hS.F ht⟩) hS.2.2 dX8_canRelate_35
def wq_x_life : List Cond := [.code yX8_life cX8_life 6 (some .int), .fieldLink RX8 10 "ServiceTree" "services" "Ljava/util/ArrayList;", .classLink RX8 65 RX7, .methodLink RX8 82 yX8_exists, .instanceMethod yX8_exists, .selects RX8 yX8_exists yX8_exists, .initialized RX8, .methodLink RX8 57 yX8_within, .static yX8_within, .methodLink RX8 86 yJx4a65c_get_915e3, .instanceMethod yJx4a65c_get_915e3, .selects RJx4a65c yJx4a65c_get_915e3 yJx4a65c_get_915e3, .initialized RJx4a65c] ++ (wsX70 ++ (wsX80 ++ (wq_x_exists ++ (wq_x_within ++ (wq_x_get)))))
theorem in_x_life_X7 : ∀ w ∈ wsX70, w ∈ wq_x_life := fun _ h => List.mem_append_right _ (List.mem_append_left _ (h))
theorem in_x_life_X8 : ∀ w ∈ wsX80, w ∈ wq_x_life := fun _ h => List.mem_append_right _ (List.mem_append_right _ (List.mem_append_left _ (h)))
set_option maxRecDepth 20000 in
theorem wi_x_life : ∀ w ∈ wq_x_life, w ∈ lw_tbl := List.forall_mem_append.mpr ⟨(by decide +kernel), List.forall_mem_append.mpr ⟨inKX7, List.forall_mem_append.mpr ⟨inKX8, List.forall_mem_append.mpr ⟨wi_x_exists, List.forall_mem_append.mpr ⟨wi_x_within, wi_x_get⟩⟩⟩⟩⟩
set_option maxRecDepth 20000 in
theorem wg_x_life : GoodIn wq_x_life wq_x_life := goodIn_sub (fun _ h => h) (by decide +kernel)
set_option maxRecDepth 20000 in
theorem wc_x_life_x_exists_82 : GoodIn wq_x_life (wsV RX8 82 RX8 yX8_exists wq_x_exists) := goodIn_app (goodIn_of _ (by decide +kernel)) (fun w h => ⟨List.mem_append_right _ (List.mem_append_right _ (List.mem_append_right _ (List.mem_append_left _ (h)))), (wg_x_exists w h).2⟩)
set_option maxRecDepth 20000 in
theorem wc_x_life_x_within_57 : GoodIn wq_x_life (va_wsS RX8 57 yX8_within wq_x_within) := goodIn_app (goodIn_of _ (by decide +kernel)) (fun w h => ⟨List.mem_append_right _ (List.mem_append_right _ (List.mem_append_right _ (List.mem_append_right _ (List.mem_append_left _ (h))))), (wg_x_within w h).2⟩)
set_option maxRecDepth 20000 in
theorem wc_x_life_x_get_86 : GoodIn wq_x_life (wsV RX8 86 RJx4a65c yJx4a65c_get_915e3 wq_x_get) := goodIn_app (goodIn_of _ (by decide +kernel)) (fun w h => ⟨List.mem_append_right _ (List.mem_append_right _ (List.mem_append_right _ (List.mem_append_right _ (List.mem_append_right _ (h))))), (wg_x_get w h).2⟩)
def rm_x_life : Room := { frames := 3, cells := 0, slots := 0, locals := 64 }
set_option maxHeartbeats 4000000 in
set_option maxRecDepth 100000 in
theorem c_x_life (l : Launch) (dC : Nat → ClassId) (dI : Nat → Nat → Nat) (h : Nat) (a : Nat → Nat) (e : Nat) (cI cJ cO cE : ClassId) (L : Nat → Int64) (I : Nat → Int32) (M : Nat → Nat → Int64) (J : Nat → Nat → Int32) (n cap : Nat) (fE : Nat → Option Nat) (sd : Nat → Nat → Nat) (si : Nat → Nat → Int32) (sa : Nat → Nat → Nat → Int32) (dl : Nat → Nat) (b : Nat) (p0 : Int32) (p1 : Int32) (p2 : Int32) (sz : Nat) (hX0 : InvX n cap fE sd dl b I J si) (hb0 : b + 0 < 2147483648)  : Met l yX8_life wq_x_life rm_x_life (va_Pc [.ref h, .int p0, .int p1, .int p2] (fun U => U.heap.size = sz ∧ va_P (dC, dI) vwCl (xW h a e cI cJ cO cE L I M J n cap fE sd si sa dl) U.heap ∧ va_K (dC, dI) vwCl (xT cI cJ cO cE) U ∧ va_D (fun _ => True) (xW h a e cI cJ cO cE L I M J n cap fE sd si sa dl) ∧ pw_N U)) (va_Qi (fun (r : Int32) (u : (Nat → Nat → Nat → Int32)) => InvX n cap fE sd dl (b + 0) I J si ∧ (∀ s9 q9 : Nat, q9 ∉ ([1] : List Nat) → u s9 q9 = sa s9 q9) ∧ (True)) (fun (u : (Nat → Nat → Nat → Int32)) (t : State) => va_P (dC, dI) vwCl (xW h a e cI cJ cO cE L I M J n cap fE sd si u dl) t.heap ∧ va_D (va_A (xW h a e cI cJ cO cE L I M J n cap fE sd si sa dl) sz) (xW h a e cI cJ cO cE L I M J n cap fE sd si u dl)) (va_A (xW h a e cI cJ cO cE L I M J n cap fE sd si sa dl) sz)) 0 0 (va_A (xW h a e cI cJ cO cE L I M J n cap fE sd si sa dl) sz) := by
  have hn : n ≤ 40 := hX0.1.1
  have hX := hX0
  have hUsa : ∀ s9 q9 : Nat, q9 ∉ ([1] : List Nat) → sa s9 q9 = sa s9 q9 := fun _ _ _ => rfl
  refine Met.ofW (cc := cX8_life) (maxL := 6) (ret := (some .int)) (by decide) rfl ?_
  intro p e9 s m args below meth c s₁ B hml hv
  obtain ⟨rfl, hsz, hP, hK, hD0, hN⟩ := hv
  have hx := B.exec
  have hb := B.bytes
  have hr := B.returns
  have hts := atoms_spec (ws := wq_x_life) B.pre
  have hown : s.vm.findClass RX8 = some m.cls := findClass_of_methodNamed B.named
  have hlocks := B.notSynchronized
  subst hsz
  have hD := hD0.self (sz := s.heap.size)
  generalize hAe : va_A (xW h a e cI cJ cO cE L I M J n cap fE sd si sa dl) s.heap.size = A at hD ⊢
  have hA : ∀ q : Nat, s.heap.size ≤ q → A q := fun q h => by rw [← hAe]; exact Or.inr h
  have hS : va_S A s.heap s.heap [] := va_S.rf
  have hl := lv_entry ([.ref h, .int p0, .int p1, .int p2]) (n := 6) (Nat.le_of_ble_eq_true rfl)
  rw [lg_entry_eq]
  generalize (lg_sl ([.ref h, .int p0, .int p1, .int p2]) ++ List.replicate (6 - (lg_sl ([.ref h, .int p0, .int p1, .int p2])).length) Slot.unset).toArray = ls at hl ⊢
  have hl : lv_has ls 6 [(0, .ref h), (1, .int p0), (2, .int p1), (3, .int p2)] := hl
  refine lv_aload_n hx hb dX8_life_0 rfl (lv_at hl 0 rfl) ?_
  refine lv_iload_n hx hb dX8_life_1 rfl (lv_at hl 1 rfl) ?_
  have hFc := mw_free hD hS hA
  refine va_calli (va_runV (As := [.int p0]) (rest := []) ⟨hx, hb, hml, hown, hts⟩ (c_x_exists l dC dI h a e cI cJ cO cE L I M J n cap fE sd si sa dl (b) p0 s.heap.size hX (by omega) ) (cwV 1 hts wc_x_life_x_exists_82 rfl rfl rfl (by decide +kernel) ⟨Nat.le_of_ble_eq_true rfl, Nat.le_of_ble_eq_true rfl⟩) ⟨fun a9 U g mk q => by obtain ⟨q0, q1, qP, qK, qD, qN⟩ := q; exact ⟨q0, q1, qP, va_K.moved (u := U) (U := U.calling g mk a9) (Vm.Alike.refl U.vm) qK, qD, pw_N.same (u := U) (U := U.calling g mk a9) rfl qN⟩, va_recv hK hP (ci := 9) (q0 := 0) rfl rfl, fun U hU hW => ⟨rfl, by rw [hU], by rw [hU]; exact hP, va_K.moved hW.alike hK, hD.weaken (fun _ _ _ _ => trivial), pw_N.warm hW hN⟩⟩ rfl rfl hl.1 rfl (lv_room (Nat.le_of_ble_eq_true rfl)) dX8_life_2 ⟨Nat.le_of_ble_eq_true rfl, Nat.le_of_ble_eq_true rfl⟩) hS (fun q _ h => hFc q h) hFc (fun r1 u t H1 locs ht hvm hw hB hz1 hk1 hS => ?_)
  replace hP := hB.1
  rw [ht] at hP
  replace hD : va_D A (xW h a e cI cJ cO cE L I M J n cap fE sd si sa dl) := hB.2.weaken (fun _ q _ h9 => hFc q.1 h9)
  clear hB
  generalize H1 = H at hP hS ⊢
  replace hP : va_P (dC, dI) vwCl (xW h a e cI cJ cO cE L I M J n cap fE sd si sa dl) H := hP
  rcases hw with ⟨rfl, j2, hj2, ej2⟩ | ⟨rfl, noj2⟩
  · subst ej2
    refine lv_if_eq (tgt := 29) hx hb dX8_life_5 (by decide) (fun c9 => absurd c9 (by decide)) (fun _ => ?_)
    refine lv_iload_n hx hb dX8_life_8 rfl (lv_at hl 2 rfl) ?_
    refine lv_iconst (v := 0) hx hb dX8_life_9 (by decide) ?_
    refine lv_bipush (v := 7) hx hb dX8_life_10 (by decide) ?_
    have hFc := mw_free hD hS hA
    refine va_calli (va_runS (As := [.int p1, .int 0, .int 7]) (rest := []) ⟨hx, hb, hml, hown, hts⟩ (c_x_within l dC dI h a e cI cJ cO cE L I M J n cap fE sd si sa dl (b) p1 0 7 H.size hX (by omega) ) (va_cwS 3 hts wc_x_life_x_within_57 rfl rfl rfl (by decide +kernel) ⟨Nat.le_of_ble_eq_true rfl, Nat.le_of_ble_eq_true rfl⟩) ⟨fun a9 U g mk q => by obtain ⟨q0, q1, qP, qK, qD, qN⟩ := q; exact ⟨q0, q1, qP, va_K.moved (u := U) (U := U.calling g mk a9) (Vm.Alike.refl U.vm) qK, qD, pw_N.same (u := U) (U := U.calling g mk a9) rfl qN⟩, fun U hU hW => ⟨rfl, by rw [hU], by rw [hU]; exact hP, va_K.moved hW.alike hK, hD.weaken (fun _ _ _ _ => trivial), pw_N.warm hW hN⟩⟩ rfl rfl hl.1 rfl (lv_room (Nat.le_of_ble_eq_true rfl)) dX8_life_12 ⟨Nat.le_of_ble_eq_true rfl, Nat.le_of_ble_eq_true rfl⟩) hS (fun q _ h => hFc q h) hFc (fun r3 u t H1 locs ht hvm hw hB hz1 hk1 hS => ?_)
    replace hP := hB.1
    rw [ht] at hP
    replace hD : va_D A (xW h a e cI cJ cO cE L I M J n cap fE sd si sa dl) := hB.2.weaken (fun _ q _ h9 => hFc q.1 h9)
    clear hB
    generalize H1 = H at hP hS ⊢
    replace hP : va_P (dC, dI) vwCl (xW h a e cI cJ cO cE L I M J n cap fE sd si sa dl) H := hP
    rcases hw with ⟨rfl, haj4, hbj4⟩ | ⟨rfl, noj4⟩
    · obtain ⟨j4, hj4, ej4⟩ := nI_of2 (n := 7) (by decide) (xw_ge0 haj4) hbj4
      subst ej4
      refine lv_if_eq (tgt := 29) hx hb dX8_life_15 (by decide) (fun c9 => absurd c9 (by decide)) (fun _ => ?_)
      refine lv_iload_n hx hb dX8_life_18 rfl (lv_at hl 3 rfl) ?_
      refine lv_iconst (v := 0) hx hb dX8_life_19 (by decide) ?_
      refine lv_sipush (v := 1000) hx hb dX8_life_20 (by decide) ?_
      have hFc := mw_free hD hS hA
      refine va_calli (va_runS (As := [.int p2, .int 0, .int 1000]) (rest := []) ⟨hx, hb, hml, hown, hts⟩ (c_x_within l dC dI h a e cI cJ cO cE L I M J n cap fE sd si sa dl (b) p2 0 1000 H.size hX (by omega) ) (va_cwS 3 hts wc_x_life_x_within_57 rfl rfl rfl (by decide +kernel) ⟨Nat.le_of_ble_eq_true rfl, Nat.le_of_ble_eq_true rfl⟩) ⟨fun a9 U g mk q => by obtain ⟨q0, q1, qP, qK, qD, qN⟩ := q; exact ⟨q0, q1, qP, va_K.moved (u := U) (U := U.calling g mk a9) (Vm.Alike.refl U.vm) qK, qD, pw_N.same (u := U) (U := U.calling g mk a9) rfl qN⟩, fun U hU hW => ⟨rfl, by rw [hU], by rw [hU]; exact hP, va_K.moved hW.alike hK, hD.weaken (fun _ _ _ _ => trivial), pw_N.warm hW hN⟩⟩ rfl rfl hl.1 rfl (lv_room (Nat.le_of_ble_eq_true rfl)) dX8_life_23 ⟨Nat.le_of_ble_eq_true rfl, Nat.le_of_ble_eq_true rfl⟩) hS (fun q _ h => hFc q h) hFc (fun r5 u t H1 locs ht hvm hw hB hz1 hk1 hS => ?_)
      replace hP := hB.1
      rw [ht] at hP
      replace hD : va_D A (xW h a e cI cJ cO cE L I M J n cap fE sd si sa dl) := hB.2.weaken (fun _ q _ h9 => hFc q.1 h9)
      clear hB
      generalize H1 = H at hP hS ⊢
      replace hP : va_P (dC, dI) vwCl (xW h a e cI cJ cO cE L I M J n cap fE sd si sa dl) H := hP
      rcases hw with ⟨rfl, haj6, hbj6⟩ | ⟨rfl, noj6⟩
      · obtain ⟨j6, hj6, ej6⟩ := nI_of2 (n := 1000) (by decide) (xw_ge0 haj6) hbj6
        subst ej6
        refine lv_if_ne (tgt := 31) hx hb dX8_life_26 (by decide) (fun _ => ?_) (fun c9 => absurd c9 (by decide))
        refine lv_aload_n hx hb dX8_life_31 rfl (lv_at hl 0 rfl) ?_
        refine va_get (D := (dC, dI)) (ci := 9) (v := .ref (a 0)) (C := RX8) (T := TX8) (N := 14) hx hb hts in_x_life_X8 hown hK hP 0 rfl rfl 0 (by decide) (hts (.fieldLink RX8 10 "ServiceTree" "services" "Ljava/util/ArrayList;") (by decide +kernel)) (fun _ h9 => h9) rfl dX8_life_32 ?_
        refine lv_iload_n hx hb dX8_life_35 rfl (lv_at hl 1 rfl) ?_
        have hFc := mw_free hD hS hA
        refine va_callr (va_runV (As := [.int (nI j2)]) (rest := []) ⟨hx, hb, hml, hown, hts⟩ (c_x_get l dC dI h a e cI cJ cO cE L I M J n cap fE sd si sa dl (b) j2 H.size hX (by omega) (by omega)) (cwV 1 hts wc_x_life_x_get_86 rfl rfl rfl (by decide +kernel) ⟨Nat.le_of_ble_eq_true rfl, Nat.le_of_ble_eq_true rfl⟩) ⟨fun a9 U g mk q => by obtain ⟨q0, q1, qP, qK, qD, qN⟩ := q; exact ⟨q0, q1, qP, va_K.moved (u := U) (U := U.calling g mk a9) (Vm.Alike.refl U.vm) qK, qD, pw_N.same (u := U) (U := U.calling g mk a9) rfl qN⟩, va_recv hK hP (ci := 0) (q0 := 1) rfl rfl, fun U hU hW => ⟨rfl, by rw [hU], by rw [hU]; exact hP, va_K.moved hW.alike hK, hD.weaken (fun _ _ _ _ => trivial), pw_N.warm hW hN⟩⟩ rfl rfl hl.1 rfl (lv_room (Nat.le_of_ble_eq_true rfl)) dX8_life_36 ⟨Nat.le_of_ble_eq_true rfl, Nat.le_of_ble_eq_true rfl⟩) hS (fun q _ h => hFc q h) hFc (fun u r7 t H1 locs ht hvm hw hB hz1 hk1 hS => ?_)
        obtain ⟨hra, hB⟩ := hB
        replace hP := hB.1
        rw [ht] at hP
        replace hD : va_D A (xW h a e cI cJ cO cE L I M J n cap fE sd si sa dl) := hB.2.weaken (fun _ q _ h9 => hFc q.1 h9)
        clear hB
        generalize H1 = H at hP hS ⊢
        replace hP : va_P (dC, dI) vwCl (xW h a e cI cJ cO cE L I M J n cap fE sd si sa dl) H := hP
        subst hra
        refine va_castS hx hb hown (hts (.classLink RX8 65 RX7) (by decide +kernel)) (hK.1 8 _ rfl).2 (va_recv hK hP (ci := 8) (q0 := (22 + (6 * j2 + 0))) rfl (xAt_0 h a e cI cJ cO cE L I M J n cap fE sd si sa dl (s := j2) (by omega))) dX8_life_39 ?_
        refine lv_astore (lv' := [(4, .ref (sd j2 0)), (0, .ref h), (1, .int (nI j2)), (2, .int (nI j4)), (3, .int (nI j6))]) hx hb dX8_life_42 hl (by decide) rfl (fun ls hl => ?_)
        refine lv_aload hx hb dX8_life_44 (lv_at hl 0 rfl) ?_
        refine va_getN (D := (dC, dI)) (ci := 8) (v := .int (si j2 0)) (C := RX7) (T := TX7) (N := 12) hx hb hts in_x_life_X7 hown hK hP (22 + (6 * j2 + 0)) (xAt_0 h a e cI cJ cO cE L I M J n cap fE sd si sa dl (s := j2) (by omega)) rfl 0 (by decide) (va_Nw.use rfl (hN (.fieldLinkNest RX8 90 "ServiceTree$Service" "kind" "I" "ServiceTree") (by decide +kernel))) (fun _ h9 => h9) rfl dX8_life_46 ?_
        refine lv_topi (fun x8 ex8 => ?_)
        refine lv_iconst (v := 3) hx hb dX8_life_49 (by decide) ?_
        refine lv_icmp_ne (tgt := 56) hx hb dX8_life_50 (by decide) (fun c9 => ?_) (fun c9 => ?_)
        · refine lv_aload hx hb dX8_life_56 (lv_at hl 0 rfl) ?_
          refine va_getN (D := (dC, dI)) (ci := 8) (v := .ref (sd j2 1)) (C := RX7) (T := TX7) (N := 12) hx hb hts in_x_life_X7 hown hK hP (22 + (6 * j2 + 0)) (xAt_0 h a e cI cJ cO cE L I M J n cap fE sd si sa dl (s := j2) (by omega)) rfl 3 (by decide) (va_Nw.use rfl (hN (.fieldLinkNest RX8 93 "ServiceTree$Service" "lives" "[I" "ServiceTree") (by decide +kernel))) (fun _ h9 => h9) rfl dX8_life_58 ?_
          refine lv_iload_n hx hb dX8_life_61 rfl (lv_at hl 3 rfl) ?_
          refine va_iald (n := 8) (f := sa j2 1) hx hb hK hP (22 + (6 * j2 + 1)) 0 (xAt_1 h a e cI cJ cO cE L I M J n cap fE sd si sa dl (s := j2) (by omega)) rfl (vp_in_nI (n := j4) (by omega) (by omega)) dX8_life_62 ?_
          refine lv_topi (fun x10 ex10 => ?_)
          refine lv_istore (lv' := [(5, .int x10), (4, .ref (sd j2 0)), (0, .ref h), (1, .int (nI j2)), (2, .int (nI j4)), (3, .int (nI j6))]) hx hb dX8_life_63 hl (by decide) rfl (fun ls hl => ?_)
          refine lv_aload hx hb dX8_life_65 (lv_at hl 1 rfl) ?_
          refine va_getN (D := (dC, dI)) (ci := 8) (v := .ref (sd j2 1)) (C := RX7) (T := TX7) (N := 12) hx hb hts in_x_life_X7 hown hK hP (22 + (6 * j2 + 0)) (xAt_0 h a e cI cJ cO cE L I M J n cap fE sd si sa dl (s := j2) (by omega)) rfl 3 (by decide) (va_Nw.use rfl (hN (.fieldLinkNest RX8 93 "ServiceTree$Service" "lives" "[I" "ServiceTree") (by decide +kernel))) (fun _ h9 => h9) rfl dX8_life_67 ?_
          refine lv_iload_n hx hb dX8_life_70 rfl (lv_at hl 4 rfl) ?_
          refine lv_iload_n hx hb dX8_life_71 rfl (lv_at hl 5 rfl) ?_
          refine va_iast (n := 8) (f := sa j2 1) hx hb hK hP hD hS (22 + (6 * j2 + 1)) 0 (xAt_1 h a e cI cJ cO cE L I M J n cap fE sd si sa dl (s := j2) (by omega)) rfl (vp_in_nI (n := j4) (by omega) (by omega)) dX8_life_72 (fun H locs hP hD hS => ?_)
          rw [xSa_1 h a e cI cJ cO cE L I M J n cap fE sd si sa dl (s := j2) (by omega)] at hP hD
          obtain ⟨sa11, esa11⟩ : ∃ f9 : Nat → Nat → Nat → Int32, f9 = up2 sa j2 1 (upd (sa j2 1) (nI j4).toNatClampNeg (nI j6)) := ⟨_, rfl⟩
          rw [← esa11] at hP hD
          replace hUsa : ∀ s9 q9 : Nat, q9 ∉ ([1] : List Nat) → sa11 s9 q9 = sa s9 q9 := by rw [esa11]; exact xw_up2 (by decide) hUsa
          refine lv_iload hx hb dX8_life_73 (lv_at hl 0 rfl) ?_
          exact W.iret (v := x10) hx hb hr (fun t ht hW => ⟨⟨x10, sa11, rfl, ⟨hX.mono (by omega), hUsa, trivial⟩, by rw [ht]; exact hP, hD⟩, hS.F ht⟩) hS.2.2 dX8_life_75
        · refine lv_bipush (v := (-2)) hx hb dX8_life_53 (by decide) ?_
          exact W.iret (v := (-2)) hx hb hr (fun t ht hW => ⟨⟨(-2), sa, rfl, ⟨hX.mono (by omega), hUsa, trivial⟩, by rw [ht]; exact hP, hD⟩, hS.F ht⟩) hS.2.2 dX8_life_55
      · refine lv_if_ne (tgt := 31) hx hb dX8_life_26 (by decide) (fun c9 => absurd (by decide) c9) (fun _ => ?_)
        refine lv_iconst (v := (-1)) hx hb dX8_life_29 (by decide) ?_
        exact W.iret (v := (-1)) hx hb hr (fun t ht hW => ⟨⟨(-1), sa, rfl, ⟨hX.mono (by omega), hUsa, trivial⟩, by rw [ht]; exact hP, hD⟩, hS.F ht⟩) hS.2.2 dX8_life_30
    · refine lv_if_eq (tgt := 29) hx hb dX8_life_15 (by decide) (fun _ => ?_) (fun c9 => absurd (by decide) c9)
      refine lv_iconst (v := (-1)) hx hb dX8_life_29 (by decide) ?_
      exact W.iret (v := (-1)) hx hb hr (fun t ht hW => ⟨⟨(-1), sa, rfl, ⟨hX.mono (by omega), hUsa, trivial⟩, by rw [ht]; exact hP, hD⟩, hS.F ht⟩) hS.2.2 dX8_life_30
  · refine lv_if_eq (tgt := 29) hx hb dX8_life_5 (by decide) (fun _ => ?_) (fun c9 => absurd (by decide) c9)
    refine lv_iconst (v := (-1)) hx hb dX8_life_29 (by decide) ?_
    exact W.iret (v := (-1)) hx hb hr (fun t ht hW => ⟨⟨(-1), sa, rfl, ⟨hX.mono (by omega), hUsa, trivial⟩, by rw [ht]; exact hP, hD⟩, hS.F ht⟩) hS.2.2 dX8_life_30
def wq_x_again : List Cond := [.code yX8_again cX8_again 5 (some .int), .fieldLink RX8 10 "ServiceTree" "services" "Ljava/util/ArrayList;", .classLink RX8 65 RX7, .methodLink RX8 82 yX8_exists, .instanceMethod yX8_exists, .selects RX8 yX8_exists yX8_exists, .initialized RX8, .methodLink RX8 57 yX8_within, .static yX8_within, .methodLink RX8 86 yJx4a65c_get_915e3, .instanceMethod yJx4a65c_get_915e3, .selects RJx4a65c yJx4a65c_get_915e3 yJx4a65c_get_915e3, .initialized RJx4a65c, .methodLink RX8 101 yX6_allow, .instanceMethod yX6_allow, .selects RX6 yX6_allow yX6_allow, .initialized RX6] ++ (wsX70 ++ (wsX80 ++ (wq_x_exists ++ (wq_x_within ++ (wq_x_get ++ (wq_x_allow))))))
theorem in_x_again_X7 : ∀ w ∈ wsX70, w ∈ wq_x_again := fun _ h => List.mem_append_right _ (List.mem_append_left _ (h))
theorem in_x_again_X8 : ∀ w ∈ wsX80, w ∈ wq_x_again := fun _ h => List.mem_append_right _ (List.mem_append_right _ (List.mem_append_left _ (h)))
set_option maxRecDepth 20000 in
theorem wi_x_again : ∀ w ∈ wq_x_again, w ∈ lw_tbl := List.forall_mem_append.mpr ⟨(by decide +kernel), List.forall_mem_append.mpr ⟨inKX7, List.forall_mem_append.mpr ⟨inKX8, List.forall_mem_append.mpr ⟨wi_x_exists, List.forall_mem_append.mpr ⟨wi_x_within, List.forall_mem_append.mpr ⟨wi_x_get, wi_x_allow⟩⟩⟩⟩⟩⟩
set_option maxRecDepth 20000 in
theorem wg_x_again : GoodIn wq_x_again wq_x_again := goodIn_sub (fun _ h => h) (by decide +kernel)
set_option maxRecDepth 20000 in
theorem wc_x_again_x_exists_82 : GoodIn wq_x_again (wsV RX8 82 RX8 yX8_exists wq_x_exists) := goodIn_app (goodIn_of _ (by decide +kernel)) (fun w h => ⟨List.mem_append_right _ (List.mem_append_right _ (List.mem_append_right _ (List.mem_append_left _ (h)))), (wg_x_exists w h).2⟩)
set_option maxRecDepth 20000 in
theorem wc_x_again_x_within_57 : GoodIn wq_x_again (va_wsS RX8 57 yX8_within wq_x_within) := goodIn_app (goodIn_of _ (by decide +kernel)) (fun w h => ⟨List.mem_append_right _ (List.mem_append_right _ (List.mem_append_right _ (List.mem_append_right _ (List.mem_append_left _ (h))))), (wg_x_within w h).2⟩)
set_option maxRecDepth 20000 in
theorem wc_x_again_x_get_86 : GoodIn wq_x_again (wsV RX8 86 RJx4a65c yJx4a65c_get_915e3 wq_x_get) := goodIn_app (goodIn_of _ (by decide +kernel)) (fun w h => ⟨List.mem_append_right _ (List.mem_append_right _ (List.mem_append_right _ (List.mem_append_right _ (List.mem_append_right _ (List.mem_append_left _ (h)))))), (wg_x_get w h).2⟩)
set_option maxRecDepth 20000 in
theorem wc_x_again_x_allow_101 : GoodIn wq_x_again (wsV RX8 101 RX6 yX6_allow wq_x_allow) := goodIn_app (goodIn_of _ (by decide +kernel)) (fun w h => ⟨List.mem_append_right _ (List.mem_append_right _ (List.mem_append_right _ (List.mem_append_right _ (List.mem_append_right _ (List.mem_append_right _ (h)))))), (wg_x_allow w h).2⟩)
def rm_x_again : Room := { frames := 3, cells := 0, slots := 0, locals := 64 }
set_option maxHeartbeats 4000000 in
set_option maxRecDepth 100000 in
theorem c_x_again (l : Launch) (dC : Nat → ClassId) (dI : Nat → Nat → Nat) (h : Nat) (a : Nat → Nat) (e : Nat) (cI cJ cO cE : ClassId) (L : Nat → Int64) (I : Nat → Int32) (M : Nat → Nat → Int64) (J : Nat → Nat → Int32) (n cap : Nat) (fE : Nat → Option Nat) (sd : Nat → Nat → Nat) (si : Nat → Nat → Int32) (sa : Nat → Nat → Nat → Int32) (dl : Nat → Nat) (b : Nat) (p0 : Int32) (p1 : Int32) (p2 : Int32) (p3 : Int32) (sz : Nat) (hX0 : InvX n cap fE sd dl b I J si) (hb0 : b + 0 < 2147483648)  : Met l yX8_again wq_x_again rm_x_again (va_Pc [.ref h, .int p0, .int p1, .int p2, .int p3] (fun U => U.heap.size = sz ∧ va_P (dC, dI) vwCl (xW h a e cI cJ cO cE L I M J n cap fE sd si sa dl) U.heap ∧ va_K (dC, dI) vwCl (xT cI cJ cO cE) U ∧ va_D (fun _ => True) (xW h a e cI cJ cO cE L I M J n cap fE sd si sa dl) ∧ pw_N U)) (va_Qi (fun (r : Int32) (u : (Nat → Nat → Int32)) => InvX n cap fE sd dl (b + 0) I J u ∧ (∀ s9 q9 : Nat, q9 ∉ ([23, 24, 25] : List Nat) → u s9 q9 = si s9 q9) ∧ (True)) (fun (u : (Nat → Nat → Int32)) (t : State) => va_P (dC, dI) vwCl (xW h a e cI cJ cO cE L I M J n cap fE sd u sa dl) t.heap ∧ va_D (va_A (xW h a e cI cJ cO cE L I M J n cap fE sd si sa dl) sz) (xW h a e cI cJ cO cE L I M J n cap fE sd u sa dl)) (va_A (xW h a e cI cJ cO cE L I M J n cap fE sd si sa dl) sz)) 0 0 (va_A (xW h a e cI cJ cO cE L I M J n cap fE sd si sa dl) sz) := by
  have hn : n ≤ 40 := hX0.1.1
  have hX := hX0
  have hUsi : ∀ s9 q9 : Nat, q9 ∉ ([23, 24, 25] : List Nat) → si s9 q9 = si s9 q9 := fun _ _ _ => rfl
  refine Met.ofW (cc := cX8_again) (maxL := 5) (ret := (some .int)) (by decide) rfl ?_
  intro p e9 s m args below meth c s₁ B hml hv
  obtain ⟨rfl, hsz, hP, hK, hD0, hN⟩ := hv
  have hx := B.exec
  have hb := B.bytes
  have hr := B.returns
  have hts := atoms_spec (ws := wq_x_again) B.pre
  have hown : s.vm.findClass RX8 = some m.cls := findClass_of_methodNamed B.named
  have hlocks := B.notSynchronized
  subst hsz
  have hD := hD0.self (sz := s.heap.size)
  generalize hAe : va_A (xW h a e cI cJ cO cE L I M J n cap fE sd si sa dl) s.heap.size = A at hD ⊢
  have hA : ∀ q : Nat, s.heap.size ≤ q → A q := fun q h => by rw [← hAe]; exact Or.inr h
  have hS : va_S A s.heap s.heap [] := va_S.rf
  have hl := lv_entry ([.ref h, .int p0, .int p1, .int p2, .int p3]) (n := 5) (Nat.le_of_ble_eq_true rfl)
  rw [lg_entry_eq]
  generalize (lg_sl ([.ref h, .int p0, .int p1, .int p2, .int p3]) ++ List.replicate (5 - (lg_sl ([.ref h, .int p0, .int p1, .int p2, .int p3])).length) Slot.unset).toArray = ls at hl ⊢
  have hl : lv_has ls 5 [(0, .ref h), (1, .int p0), (2, .int p1), (3, .int p2), (4, .int p3)] := hl
  refine lv_aload_n hx hb dX8_again_0 rfl (lv_at hl 0 rfl) ?_
  refine lv_iload_n hx hb dX8_again_1 rfl (lv_at hl 1 rfl) ?_
  have hFc := mw_free hD hS hA
  refine va_calli (va_runV (As := [.int p0]) (rest := []) ⟨hx, hb, hml, hown, hts⟩ (c_x_exists l dC dI h a e cI cJ cO cE L I M J n cap fE sd si sa dl (b) p0 s.heap.size hX (by omega) ) (cwV 1 hts wc_x_again_x_exists_82 rfl rfl rfl (by decide +kernel) ⟨Nat.le_of_ble_eq_true rfl, Nat.le_of_ble_eq_true rfl⟩) ⟨fun a9 U g mk q => by obtain ⟨q0, q1, qP, qK, qD, qN⟩ := q; exact ⟨q0, q1, qP, va_K.moved (u := U) (U := U.calling g mk a9) (Vm.Alike.refl U.vm) qK, qD, pw_N.same (u := U) (U := U.calling g mk a9) rfl qN⟩, va_recv hK hP (ci := 9) (q0 := 0) rfl rfl, fun U hU hW => ⟨rfl, by rw [hU], by rw [hU]; exact hP, va_K.moved hW.alike hK, hD.weaken (fun _ _ _ _ => trivial), pw_N.warm hW hN⟩⟩ rfl rfl hl.1 rfl (lv_room (Nat.le_of_ble_eq_true rfl)) dX8_again_2 ⟨Nat.le_of_ble_eq_true rfl, Nat.le_of_ble_eq_true rfl⟩) hS (fun q _ h => hFc q h) hFc (fun r1 u t H1 locs ht hvm hw hB hz1 hk1 hS => ?_)
  replace hP := hB.1
  rw [ht] at hP
  replace hD : va_D A (xW h a e cI cJ cO cE L I M J n cap fE sd si sa dl) := hB.2.weaken (fun _ q _ h9 => hFc q.1 h9)
  clear hB
  generalize H1 = H at hP hS ⊢
  replace hP : va_P (dC, dI) vwCl (xW h a e cI cJ cO cE L I M J n cap fE sd si sa dl) H := hP
  rcases hw with ⟨rfl, j2, hj2, ej2⟩ | ⟨rfl, noj2⟩
  · subst ej2
    refine lv_if_eq (tgt := 40) hx hb dX8_again_5 (by decide) (fun c9 => absurd c9 (by decide)) (fun _ => ?_)
    refine lv_iload_n hx hb dX8_again_8 rfl (lv_at hl 2 rfl) ?_
    refine lv_iconst (v := 1) hx hb dX8_again_9 (by decide) ?_
    refine lv_bipush (v := 50) hx hb dX8_again_10 (by decide) ?_
    have hFc := mw_free hD hS hA
    refine va_calli (va_runS (As := [.int p1, .int 1, .int 50]) (rest := []) ⟨hx, hb, hml, hown, hts⟩ (c_x_within l dC dI h a e cI cJ cO cE L I M J n cap fE sd si sa dl (b) p1 1 50 H.size hX (by omega) ) (va_cwS 3 hts wc_x_again_x_within_57 rfl rfl rfl (by decide +kernel) ⟨Nat.le_of_ble_eq_true rfl, Nat.le_of_ble_eq_true rfl⟩) ⟨fun a9 U g mk q => by obtain ⟨q0, q1, qP, qK, qD, qN⟩ := q; exact ⟨q0, q1, qP, va_K.moved (u := U) (U := U.calling g mk a9) (Vm.Alike.refl U.vm) qK, qD, pw_N.same (u := U) (U := U.calling g mk a9) rfl qN⟩, fun U hU hW => ⟨rfl, by rw [hU], by rw [hU]; exact hP, va_K.moved hW.alike hK, hD.weaken (fun _ _ _ _ => trivial), pw_N.warm hW hN⟩⟩ rfl rfl hl.1 rfl (lv_room (Nat.le_of_ble_eq_true rfl)) dX8_again_12 ⟨Nat.le_of_ble_eq_true rfl, Nat.le_of_ble_eq_true rfl⟩) hS (fun q _ h => hFc q h) hFc (fun r3 u t H1 locs ht hvm hw hB hz1 hk1 hS => ?_)
    replace hP := hB.1
    rw [ht] at hP
    replace hD : va_D A (xW h a e cI cJ cO cE L I M J n cap fE sd si sa dl) := hB.2.weaken (fun _ q _ h9 => hFc q.1 h9)
    clear hB
    generalize H1 = H at hP hS ⊢
    replace hP : va_P (dC, dI) vwCl (xW h a e cI cJ cO cE L I M J n cap fE sd si sa dl) H := hP
    rcases hw with ⟨rfl, haj4, hbj4⟩ | ⟨rfl, noj4⟩
    · obtain ⟨j4, hj4, ej4⟩ := nI_of2 (n := 50) (by decide) (xw_ge1 haj4) hbj4
      have gj4 : 0 < j4 := xw_ge1p ej4 haj4
      subst ej4
      refine lv_if_eq (tgt := 40) hx hb dX8_again_15 (by decide) (fun c9 => absurd c9 (by decide)) (fun _ => ?_)
      refine lv_iload_n hx hb dX8_again_18 rfl (lv_at hl 3 rfl) ?_
      refine lv_iconst (v := 0) hx hb dX8_again_19 (by decide) ?_
      refine lv_bipush (v := 10) hx hb dX8_again_20 (by decide) ?_
      have hFc := mw_free hD hS hA
      refine va_calli (va_runS (As := [.int p2, .int 0, .int 10]) (rest := []) ⟨hx, hb, hml, hown, hts⟩ (c_x_within l dC dI h a e cI cJ cO cE L I M J n cap fE sd si sa dl (b) p2 0 10 H.size hX (by omega) ) (va_cwS 3 hts wc_x_again_x_within_57 rfl rfl rfl (by decide +kernel) ⟨Nat.le_of_ble_eq_true rfl, Nat.le_of_ble_eq_true rfl⟩) ⟨fun a9 U g mk q => by obtain ⟨q0, q1, qP, qK, qD, qN⟩ := q; exact ⟨q0, q1, qP, va_K.moved (u := U) (U := U.calling g mk a9) (Vm.Alike.refl U.vm) qK, qD, pw_N.same (u := U) (U := U.calling g mk a9) rfl qN⟩, fun U hU hW => ⟨rfl, by rw [hU], by rw [hU]; exact hP, va_K.moved hW.alike hK, hD.weaken (fun _ _ _ _ => trivial), pw_N.warm hW hN⟩⟩ rfl rfl hl.1 rfl (lv_room (Nat.le_of_ble_eq_true rfl)) dX8_again_22 ⟨Nat.le_of_ble_eq_true rfl, Nat.le_of_ble_eq_true rfl⟩) hS (fun q _ h => hFc q h) hFc (fun r5 u t H1 locs ht hvm hw hB hz1 hk1 hS => ?_)
      replace hP := hB.1
      rw [ht] at hP
      replace hD : va_D A (xW h a e cI cJ cO cE L I M J n cap fE sd si sa dl) := hB.2.weaken (fun _ q _ h9 => hFc q.1 h9)
      clear hB
      generalize H1 = H at hP hS ⊢
      replace hP : va_P (dC, dI) vwCl (xW h a e cI cJ cO cE L I M J n cap fE sd si sa dl) H := hP
      rcases hw with ⟨rfl, haj6, hbj6⟩ | ⟨rfl, noj6⟩
      · obtain ⟨j6, hj6, ej6⟩ := nI_of2 (n := 10) (by decide) (xw_ge0 haj6) hbj6
        subst ej6
        refine lv_if_eq (tgt := 40) hx hb dX8_again_25 (by decide) (fun c9 => absurd c9 (by decide)) (fun _ => ?_)
        refine lv_iload hx hb dX8_again_28 (lv_at hl 4 rfl) ?_
        refine lv_iconst (v := 1) hx hb dX8_again_30 (by decide) ?_
        refine lv_sipush (v := 200) hx hb dX8_again_31 (by decide) ?_
        have hFc := mw_free hD hS hA
        refine va_calli (va_runS (As := [.int p3, .int 1, .int 200]) (rest := []) ⟨hx, hb, hml, hown, hts⟩ (c_x_within l dC dI h a e cI cJ cO cE L I M J n cap fE sd si sa dl (b) p3 1 200 H.size hX (by omega) ) (va_cwS 3 hts wc_x_again_x_within_57 rfl rfl rfl (by decide +kernel) ⟨Nat.le_of_ble_eq_true rfl, Nat.le_of_ble_eq_true rfl⟩) ⟨fun a9 U g mk q => by obtain ⟨q0, q1, qP, qK, qD, qN⟩ := q; exact ⟨q0, q1, qP, va_K.moved (u := U) (U := U.calling g mk a9) (Vm.Alike.refl U.vm) qK, qD, pw_N.same (u := U) (U := U.calling g mk a9) rfl qN⟩, fun U hU hW => ⟨rfl, by rw [hU], by rw [hU]; exact hP, va_K.moved hW.alike hK, hD.weaken (fun _ _ _ _ => trivial), pw_N.warm hW hN⟩⟩ rfl rfl hl.1 rfl (lv_room (Nat.le_of_ble_eq_true rfl)) dX8_again_34 ⟨Nat.le_of_ble_eq_true rfl, Nat.le_of_ble_eq_true rfl⟩) hS (fun q _ h => hFc q h) hFc (fun r7 u t H1 locs ht hvm hw hB hz1 hk1 hS => ?_)
        replace hP := hB.1
        rw [ht] at hP
        replace hD : va_D A (xW h a e cI cJ cO cE L I M J n cap fE sd si sa dl) := hB.2.weaken (fun _ q _ h9 => hFc q.1 h9)
        clear hB
        generalize H1 = H at hP hS ⊢
        replace hP : va_P (dC, dI) vwCl (xW h a e cI cJ cO cE L I M J n cap fE sd si sa dl) H := hP
        rcases hw with ⟨rfl, haj8, hbj8⟩ | ⟨rfl, noj8⟩
        · obtain ⟨j8, hj8, ej8⟩ := nI_of2 (n := 200) (by decide) (xw_ge1 haj8) hbj8
          have gj8 : 0 < j8 := xw_ge1p ej8 haj8
          subst ej8
          refine lv_if_ne (tgt := 42) hx hb dX8_again_37 (by decide) (fun _ => ?_) (fun c9 => absurd c9 (by decide))
          refine lv_aload_n hx hb dX8_again_42 rfl (lv_at hl 0 rfl) ?_
          refine va_get (D := (dC, dI)) (ci := 9) (v := .ref (a 0)) (C := RX8) (T := TX8) (N := 14) hx hb hts in_x_again_X8 hown hK hP 0 rfl rfl 0 (by decide) (hts (.fieldLink RX8 10 "ServiceTree" "services" "Ljava/util/ArrayList;") (by decide +kernel)) (fun _ h9 => h9) rfl dX8_again_43 ?_
          refine lv_iload_n hx hb dX8_again_46 rfl (lv_at hl 1 rfl) ?_
          have hFc := mw_free hD hS hA
          refine va_callr (va_runV (As := [.int (nI j2)]) (rest := []) ⟨hx, hb, hml, hown, hts⟩ (c_x_get l dC dI h a e cI cJ cO cE L I M J n cap fE sd si sa dl (b) j2 H.size hX (by omega) (by omega)) (cwV 1 hts wc_x_again_x_get_86 rfl rfl rfl (by decide +kernel) ⟨Nat.le_of_ble_eq_true rfl, Nat.le_of_ble_eq_true rfl⟩) ⟨fun a9 U g mk q => by obtain ⟨q0, q1, qP, qK, qD, qN⟩ := q; exact ⟨q0, q1, qP, va_K.moved (u := U) (U := U.calling g mk a9) (Vm.Alike.refl U.vm) qK, qD, pw_N.same (u := U) (U := U.calling g mk a9) rfl qN⟩, va_recv hK hP (ci := 0) (q0 := 1) rfl rfl, fun U hU hW => ⟨rfl, by rw [hU], by rw [hU]; exact hP, va_K.moved hW.alike hK, hD.weaken (fun _ _ _ _ => trivial), pw_N.warm hW hN⟩⟩ rfl rfl hl.1 rfl (lv_room (Nat.le_of_ble_eq_true rfl)) dX8_again_47 ⟨Nat.le_of_ble_eq_true rfl, Nat.le_of_ble_eq_true rfl⟩) hS (fun q _ h => hFc q h) hFc (fun u r9 t H1 locs ht hvm hw hB hz1 hk1 hS => ?_)
          obtain ⟨hra, hB⟩ := hB
          replace hP := hB.1
          rw [ht] at hP
          replace hD : va_D A (xW h a e cI cJ cO cE L I M J n cap fE sd si sa dl) := hB.2.weaken (fun _ q _ h9 => hFc q.1 h9)
          clear hB
          generalize H1 = H at hP hS ⊢
          replace hP : va_P (dC, dI) vwCl (xW h a e cI cJ cO cE L I M J n cap fE sd si sa dl) H := hP
          subst hra
          refine va_castS hx hb hown (hts (.classLink RX8 65 RX7) (by decide +kernel)) (hK.1 8 _ rfl).2 (va_recv hK hP (ci := 8) (q0 := (22 + (6 * j2 + 0))) rfl (xAt_0 h a e cI cJ cO cE L I M J n cap fE sd si sa dl (s := j2) (by omega))) dX8_again_50 ?_
          refine va_getN (D := (dC, dI)) (ci := 8) (v := .ref (sd j2 2)) (C := RX7) (T := TX7) (N := 12) hx hb hts in_x_again_X7 hown hK hP (22 + (6 * j2 + 0)) (xAt_0 h a e cI cJ cO cE L I M J n cap fE sd si sa dl (s := j2) (by omega)) rfl 4 (by decide) (va_Nw.use rfl (hN (.fieldLinkNest RX8 97 "ServiceTree$Service" "restarts" "LServiceTree$Restarts;" "ServiceTree") (by decide +kernel))) (fun _ h9 => h9) rfl dX8_again_53 ?_
          refine lv_iload_n hx hb dX8_again_56 rfl (lv_at hl 2 rfl) ?_
          refine lv_iload_n hx hb dX8_again_57 rfl (lv_at hl 3 rfl) ?_
          refine lv_iload hx hb dX8_again_58 (lv_at hl 4 rfl) ?_
          have hFc := mw_free hD hS hA
          refine va_callv (va_runV (As := [.int (nI j4), .int (nI j6), .int (nI j8)]) (rest := []) ⟨hx, hb, hml, hown, hts⟩ (c_x_allow l dC dI h a e cI cJ cO cE L I M J n cap fE sd si sa dl (b) j2 (nI j4) j6 (nI j8) H.size hX (by omega) (by omega) (by omega)) (cwV 3 hts wc_x_again_x_allow_101 rfl rfl rfl (by decide +kernel) ⟨Nat.le_of_ble_eq_true rfl, Nat.le_of_ble_eq_true rfl⟩) ⟨fun a9 U g mk q => by obtain ⟨q0, q1, qP, qK, qD, qN⟩ := q; exact ⟨q0, q1, qP, va_K.moved (u := U) (U := U.calling g mk a9) (Vm.Alike.refl U.vm) qK, qD, pw_N.same (u := U) (U := U.calling g mk a9) rfl qN⟩, va_recv hK hP (ci := 7) (q0 := (22 + (6 * j2 + 2))) rfl (xAt_2 h a e cI cJ cO cE L I M J n cap fE sd si sa dl (s := j2) (by omega)), fun U hU hW => ⟨rfl, by rw [hU], by rw [hU]; exact hP, va_K.moved hW.alike hK, hD.weaken (fun _ _ _ _ => trivial), pw_N.warm hW hN⟩⟩ rfl rfl hl.1 rfl (lv_room (Nat.le_of_ble_eq_true rfl)) dX8_again_60 ⟨Nat.le_of_ble_eq_true rfl, Nat.le_of_ble_eq_true rfl⟩) hS (fun q _ h => hFc q h) hFc (fun u t H1 locs ht hvm hw hB hz1 hk1 hS => ?_)
          obtain ⟨si11, rfl⟩ : ∃ z9, z9 = u := ⟨_, rfl⟩
          replace hP := hB.1
          rw [ht] at hP
          replace hD : va_D A (xW h a e cI cJ cO cE L I M J n cap fE sd si11 sa dl) := hB.2.weaken (fun _ q _ h9 => hFc q.1 h9)
          clear hB
          generalize H1 = H at hP hS ⊢
          replace hP : va_P (dC, dI) vwCl (xW h a e cI cJ cO cE L I M J n cap fE sd si11 sa dl) H := hP
          obtain ⟨hwX, whUsi, hw⟩ := hw
          replace hX : InvX n cap fE sd dl (b) I J si11 := hwX
          replace hUsi : ∀ s9 q9 : Nat, q9 ∉ ([23, 24, 25] : List Nat) → si11 s9 q9 = si s9 q9 := xw_tr2 (by decide) whUsi hUsi
          refine lv_iconst (v := 1) hx hb dX8_again_63 (by decide) ?_
          exact W.iret (v := 1) hx hb hr (fun t ht hW => ⟨⟨1, si11, rfl, ⟨hX.mono (by omega), hUsi, trivial⟩, by rw [ht]; exact hP, hD⟩, hS.F ht⟩) hS.2.2 dX8_again_64
        · refine lv_if_ne (tgt := 42) hx hb dX8_again_37 (by decide) (fun c9 => absurd (by decide) c9) (fun _ => ?_)
          refine lv_iconst (v := (-1)) hx hb dX8_again_40 (by decide) ?_
          exact W.iret (v := (-1)) hx hb hr (fun t ht hW => ⟨⟨(-1), si, rfl, ⟨hX.mono (by omega), hUsi, trivial⟩, by rw [ht]; exact hP, hD⟩, hS.F ht⟩) hS.2.2 dX8_again_41
      · refine lv_if_eq (tgt := 40) hx hb dX8_again_25 (by decide) (fun _ => ?_) (fun c9 => absurd (by decide) c9)
        refine lv_iconst (v := (-1)) hx hb dX8_again_40 (by decide) ?_
        exact W.iret (v := (-1)) hx hb hr (fun t ht hW => ⟨⟨(-1), si, rfl, ⟨hX.mono (by omega), hUsi, trivial⟩, by rw [ht]; exact hP, hD⟩, hS.F ht⟩) hS.2.2 dX8_again_41
    · refine lv_if_eq (tgt := 40) hx hb dX8_again_15 (by decide) (fun _ => ?_) (fun c9 => absurd (by decide) c9)
      refine lv_iconst (v := (-1)) hx hb dX8_again_40 (by decide) ?_
      exact W.iret (v := (-1)) hx hb hr (fun t ht hW => ⟨⟨(-1), si, rfl, ⟨hX.mono (by omega), hUsi, trivial⟩, by rw [ht]; exact hP, hD⟩, hS.F ht⟩) hS.2.2 dX8_again_41
  · refine lv_if_eq (tgt := 40) hx hb dX8_again_5 (by decide) (fun _ => ?_) (fun c9 => absurd (by decide) c9)
    refine lv_iconst (v := (-1)) hx hb dX8_again_40 (by decide) ?_
    exact W.iret (v := (-1)) hx hb hr (fun t ht hW => ⟨⟨(-1), si, rfl, ⟨hX.mono (by omega), hUsi, trivial⟩, by rw [ht]; exact hP, hD⟩, hS.F ht⟩) hS.2.2 dX8_again_41
