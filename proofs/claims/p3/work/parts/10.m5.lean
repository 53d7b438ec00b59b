theorem dX9_shortest_0 : decode cX9_shortest 0 = .ok (.iconst 0, 1) := by decide +kernel
theorem dX9_shortest_1 : decode cX9_shortest 1 = .ok (.istore_n 1, 1) := by decide +kernel
theorem dX9_shortest_2 : decode cX9_shortest 2 = .ok (.iconst 0, 1) := by decide +kernel
theorem dX9_shortest_3 : decode cX9_shortest 3 = .ok (.istore_n 2, 1) := by decide +kernel
theorem dX9_shortest_4 : decode cX9_shortest 4 = .ok (.iload_n 2, 1) := by decide +kernel
theorem dX9_shortest_5 : decode cX9_shortest 5 = .ok (.aload_n 0, 1) := by decide +kernel
theorem dX9_shortest_6 : decode cX9_shortest 6 = .ok (.getfield 126, 3) := by decide +kernel
theorem dX9_shortest_9 : decode cX9_shortest 9 = .ok (.if_icmp .ge 183, 3) := by decide +kernel
theorem dX9_shortest_12 : decode cX9_shortest 12 = .ok (.iconst 0, 1) := by decide +kernel
theorem dX9_shortest_13 : decode cX9_shortest 13 = .ok (.istore_n 3, 1) := by decide +kernel
theorem dX9_shortest_14 : decode cX9_shortest 14 = .ok (.iload_n 3, 1) := by decide +kernel
theorem dX9_shortest_15 : decode cX9_shortest 15 = .ok (.aload_n 0, 1) := by decide +kernel
theorem dX9_shortest_16 : decode cX9_shortest 16 = .ok (.getfield 126, 3) := by decide +kernel
theorem dX9_shortest_19 : decode cX9_shortest 19 = .ok (.if_icmp .ge 34, 3) := by decide +kernel
theorem dX9_shortest_22 : decode cX9_shortest 22 = .ok (.aload_n 0, 1) := by decide +kernel
theorem dX9_shortest_23 : decode cX9_shortest 23 = .ok (.getfield 92, 3) := by decide +kernel
theorem dX9_shortest_26 : decode cX9_shortest 26 = .ok (.iload_n 3, 1) := by decide +kernel
theorem dX9_shortest_27 : decode cX9_shortest 27 = .ok (.aload_n 0, 1) := by decide +kernel
theorem dX9_shortest_28 : decode cX9_shortest 28 = .ok (.getfield 89, 3) := by decide +kernel
theorem dX9_shortest_31 : decode cX9_shortest 31 = .ok (.iload_n 2, 1) := by decide +kernel
theorem dX9_shortest_32 : decode cX9_shortest 32 = .ok (.bipush 40, 2) := by decide +kernel
theorem dX9_shortest_34 : decode cX9_shortest 34 = .ok (.imul, 1) := by decide +kernel
theorem dX9_shortest_35 : decode cX9_shortest 35 = .ok (.iload_n 3, 1) := by decide +kernel
theorem dX9_shortest_36 : decode cX9_shortest 36 = .ok (.iadd, 1) := by decide +kernel
theorem dX9_shortest_37 : decode cX9_shortest 37 = .ok (.baload, 1) := by decide +kernel
theorem dX9_shortest_38 : decode cX9_shortest 38 = .ok (.ifCond .eq 7, 3) := by decide +kernel
theorem dX9_shortest_41 : decode cX9_shortest 41 = .ok (.iconst 1, 1) := by decide +kernel
theorem dX9_shortest_42 : decode cX9_shortest 42 = .ok (.goto 4, 3) := by decide +kernel
theorem dX9_shortest_45 : decode cX9_shortest 45 = .ok (.iconst 0, 1) := by decide +kernel
theorem dX9_shortest_46 : decode cX9_shortest 46 = .ok (.iastore, 1) := by decide +kernel
theorem dX9_shortest_47 : decode cX9_shortest 47 = .ok (.iinc 3 1, 3) := by decide +kernel
theorem dX9_shortest_50 : decode cX9_shortest 50 = .ok (.goto (-36), 3) := by decide +kernel
theorem dX9_shortest_53 : decode cX9_shortest 53 = .ok (.iconst 1, 1) := by decide +kernel
theorem dX9_shortest_54 : decode cX9_shortest 54 = .ok (.istore_n 3, 1) := by decide +kernel
theorem dX9_shortest_55 : decode cX9_shortest 55 = .ok (.iload_n 3, 1) := by decide +kernel
theorem dX9_shortest_56 : decode cX9_shortest 56 = .ok (.aload_n 0, 1) := by decide +kernel
theorem dX9_shortest_57 : decode cX9_shortest 57 = .ok (.getfield 126, 3) := by decide +kernel
theorem dX9_shortest_60 : decode cX9_shortest 60 = .ok (.if_icmp .ge 92, 3) := by decide +kernel
theorem dX9_shortest_63 : decode cX9_shortest 63 = .ok (.iconst 0, 1) := by decide +kernel
theorem dX9_shortest_64 : decode cX9_shortest 64 = .ok (.istore 4, 2) := by decide +kernel
theorem dX9_shortest_66 : decode cX9_shortest 66 = .ok (.iload 4, 2) := by decide +kernel
theorem dX9_shortest_68 : decode cX9_shortest 68 = .ok (.aload_n 0, 1) := by decide +kernel
theorem dX9_shortest_69 : decode cX9_shortest 69 = .ok (.getfield 126, 3) := by decide +kernel
theorem dX9_shortest_72 : decode cX9_shortest 72 = .ok (.if_icmp .ge 74, 3) := by decide +kernel
theorem dX9_shortest_75 : decode cX9_shortest 75 = .ok (.iconst 0, 1) := by decide +kernel
theorem dX9_shortest_76 : decode cX9_shortest 76 = .ok (.istore 5, 2) := by decide +kernel
theorem dX9_shortest_78 : decode cX9_shortest 78 = .ok (.iload 5, 2) := by decide +kernel
theorem dX9_shortest_80 : decode cX9_shortest 80 = .ok (.aload_n 0, 1) := by decide +kernel
theorem dX9_shortest_81 : decode cX9_shortest 81 = .ok (.getfield 126, 3) := by decide +kernel
theorem dX9_shortest_84 : decode cX9_shortest 84 = .ok (.if_icmp .ge 56, 3) := by decide +kernel
theorem dX9_shortest_87 : decode cX9_shortest 87 = .ok (.aload_n 0, 1) := by decide +kernel
theorem dX9_shortest_88 : decode cX9_shortest 88 = .ok (.getfield 92, 3) := by decide +kernel
theorem dX9_shortest_91 : decode cX9_shortest 91 = .ok (.iload 4, 2) := by decide +kernel
theorem dX9_shortest_93 : decode cX9_shortest 93 = .ok (.iaload, 1) := by decide +kernel
theorem dX9_shortest_94 : decode cX9_shortest 94 = .ok (.iload_n 3, 1) := by decide +kernel
theorem dX9_shortest_95 : decode cX9_shortest 95 = .ok (.if_icmp .ne 45, 3) := by decide +kernel
theorem dX9_shortest_98 : decode cX9_shortest 98 = .ok (.aload_n 0, 1) := by decide +kernel
theorem dX9_shortest_99 : decode cX9_shortest 99 = .ok (.getfield 92, 3) := by decide +kernel
theorem dX9_shortest_102 : decode cX9_shortest 102 = .ok (.iload 5, 2) := by decide +kernel
theorem dX9_shortest_104 : decode cX9_shortest 104 = .ok (.iaload, 1) := by decide +kernel
theorem dX9_shortest_105 : decode cX9_shortest 105 = .ok (.ifCond .ne 29, 3) := by decide +kernel
theorem dX9_shortest_108 : decode cX9_shortest 108 = .ok (.aload_n 0, 1) := by decide +kernel
theorem dX9_shortest_109 : decode cX9_shortest 109 = .ok (.getfield 89, 3) := by decide +kernel
theorem dX9_shortest_112 : decode cX9_shortest 112 = .ok (.iload 4, 2) := by decide +kernel
theorem dX9_shortest_114 : decode cX9_shortest 114 = .ok (.bipush 40, 2) := by decide +kernel
theorem dX9_shortest_116 : decode cX9_shortest 116 = .ok (.imul, 1) := by decide +kernel
theorem dX9_shortest_117 : decode cX9_shortest 117 = .ok (.iload 5, 2) := by decide +kernel
theorem dX9_shortest_119 : decode cX9_shortest 119 = .ok (.iadd, 1) := by decide +kernel
theorem dX9_shortest_120 : decode cX9_shortest 120 = .ok (.baload, 1) := by decide +kernel
theorem dX9_shortest_121 : decode cX9_shortest 121 = .ok (.ifCond .eq 13, 3) := by decide +kernel
theorem dX9_shortest_124 : decode cX9_shortest 124 = .ok (.aload_n 0, 1) := by decide +kernel
theorem dX9_shortest_125 : decode cX9_shortest 125 = .ok (.getfield 92, 3) := by decide +kernel
theorem dX9_shortest_128 : decode cX9_shortest 128 = .ok (.iload 5, 2) := by decide +kernel
theorem dX9_shortest_130 : decode cX9_shortest 130 = .ok (.iload_n 3, 1) := by decide +kernel
theorem dX9_shortest_131 : decode cX9_shortest 131 = .ok (.iconst 1, 1) := by decide +kernel
theorem dX9_shortest_132 : decode cX9_shortest 132 = .ok (.iadd, 1) := by decide +kernel
theorem dX9_shortest_133 : decode cX9_shortest 133 = .ok (.iastore, 1) := by decide +kernel
theorem dX9_shortest_134 : decode cX9_shortest 134 = .ok (.iinc 5 1, 3) := by decide +kernel
theorem dX9_shortest_137 : decode cX9_shortest 137 = .ok (.goto (-59), 3) := by decide +kernel
theorem dX9_shortest_140 : decode cX9_shortest 140 = .ok (.iinc 4 1, 3) := by decide +kernel
theorem dX9_shortest_143 : decode cX9_shortest 143 = .ok (.goto (-77), 3) := by decide +kernel
theorem dX9_shortest_146 : decode cX9_shortest 146 = .ok (.iinc 3 1, 3) := by decide +kernel
theorem dX9_shortest_149 : decode cX9_shortest 149 = .ok (.goto (-94), 3) := by decide +kernel
theorem dX9_shortest_152 : decode cX9_shortest 152 = .ok (.aload_n 0, 1) := by decide +kernel
theorem dX9_shortest_153 : decode cX9_shortest 153 = .ok (.getfield 92, 3) := by decide +kernel
theorem dX9_shortest_156 : decode cX9_shortest 156 = .ok (.iload_n 2, 1) := by decide +kernel
theorem dX9_shortest_157 : decode cX9_shortest 157 = .ok (.iaload, 1) := by decide +kernel
theorem dX9_shortest_158 : decode cX9_shortest 158 = .ok (.ifCond .le 26, 3) := by decide +kernel
theorem dX9_shortest_161 : decode cX9_shortest 161 = .ok (.iload_n 1, 1) := by decide +kernel
theorem dX9_shortest_162 : decode cX9_shortest 162 = .ok (.ifCond .eq 13, 3) := by decide +kernel
theorem dX9_shortest_165 : decode cX9_shortest 165 = .ok (.aload_n 0, 1) := by decide +kernel
theorem dX9_shortest_166 : decode cX9_shortest 166 = .ok (.getfield 92, 3) := by decide +kernel
theorem dX9_shortest_169 : decode cX9_shortest 169 = .ok (.iload_n 2, 1) := by decide +kernel
theorem dX9_shortest_170 : decode cX9_shortest 170 = .ok (.iaload, 1) := by decide +kernel
theorem dX9_shortest_171 : decode cX9_shortest 171 = .ok (.iload_n 1, 1) := by decide +kernel
theorem dX9_shortest_172 : decode cX9_shortest 172 = .ok (.if_icmp .ge 12, 3) := by decide +kernel
theorem dX9_shortest_175 : decode cX9_shortest 175 = .ok (.aload_n 0, 1) := by decide +kernel
theorem dX9_shortest_176 : decode cX9_shortest 176 = .ok (.getfield 92, 3) := by decide +kernel
theorem dX9_shortest_179 : decode cX9_shortest 179 = .ok (.iload_n 2, 1) := by decide +kernel
theorem dX9_shortest_180 : decode cX9_shortest 180 = .ok (.iaload, 1) := by decide +kernel
theorem dX9_shortest_181 : decode cX9_shortest 181 = .ok (.goto 4, 3) := by decide +kernel
theorem dX9_shortest_184 : decode cX9_shortest 184 = .ok (.iload_n 1, 1) := by decide +kernel
theorem dX9_shortest_185 : decode cX9_shortest 185 = .ok (.istore_n 1, 1) := by decide +kernel
theorem dX9_shortest_186 : decode cX9_shortest 186 = .ok (.iinc 2 1, 3) := by decide +kernel
theorem dX9_shortest_189 : decode cX9_shortest 189 = .ok (.goto (-185), 3) := by decide +kernel
theorem dX9_shortest_192 : decode cX9_shortest 192 = .ok (.iload_n 1, 1) := by decide +kernel
theorem dX9_shortest_193 : decode cX9_shortest 193 = .ok (.ireturn, 1) := by decide +kernel
theorem dX9_memberRing_0 : decode cX9_memberRing 0 = .ok (.iconst 0, 1) := by decide +kernel
theorem dX9_memberRing_1 : decode cX9_memberRing 1 = .ok (.istore_n 2, 1) := by decide +kernel
theorem dX9_memberRing_2 : decode cX9_memberRing 2 = .ok (.iload_n 2, 1) := by decide +kernel
theorem dX9_memberRing_3 : decode cX9_memberRing 3 = .ok (.aload_n 0, 1) := by decide +kernel
theorem dX9_memberRing_4 : decode cX9_memberRing 4 = .ok (.getfield 126, 3) := by decide +kernel
theorem dX9_memberRing_7 : decode cX9_memberRing 7 = .ok (.if_icmp .ge 93, 3) := by decide +kernel
theorem dX9_memberRing_10 : decode cX9_memberRing 10 = .ok (.iconst 0, 1) := by decide +kernel
theorem dX9_memberRing_11 : decode cX9_memberRing 11 = .ok (.istore_n 3, 1) := by decide +kernel
theorem dX9_memberRing_12 : decode cX9_memberRing 12 = .ok (.iload_n 3, 1) := by decide +kernel
theorem dX9_memberRing_13 : decode cX9_memberRing 13 = .ok (.aload_n 0, 1) := by decide +kernel
theorem dX9_memberRing_14 : decode cX9_memberRing 14 = .ok (.getfield 126, 3) := by decide +kernel
theorem dX9_memberRing_17 : decode cX9_memberRing 17 = .ok (.if_icmp .ge 77, 3) := by decide +kernel
theorem dX9_memberRing_20 : decode cX9_memberRing 20 = .ok (.aload_n 0, 1) := by decide +kernel
theorem dX9_memberRing_21 : decode cX9_memberRing 21 = .ok (.getfield 89, 3) := by decide +kernel
theorem dX9_memberRing_24 : decode cX9_memberRing 24 = .ok (.iload_n 2, 1) := by decide +kernel
theorem dX9_memberRing_25 : decode cX9_memberRing 25 = .ok (.bipush 40, 2) := by decide +kernel
theorem dX9_memberRing_27 : decode cX9_memberRing 27 = .ok (.imul, 1) := by decide +kernel
theorem dX9_memberRing_28 : decode cX9_memberRing 28 = .ok (.iload_n 3, 1) := by decide +kernel
theorem dX9_memberRing_29 : decode cX9_memberRing 29 = .ok (.iadd, 1) := by decide +kernel
theorem dX9_memberRing_30 : decode cX9_memberRing 30 = .ok (.aload_n 1, 1) := by decide +kernel
theorem dX9_memberRing_31 : decode cX9_memberRing 31 = .ok (.iload_n 2, 1) := by decide +kernel
theorem dX9_memberRing_32 : decode cX9_memberRing 32 = .ok (.baload, 1) := by decide +kernel
theorem dX9_memberRing_33 : decode cX9_memberRing 33 = .ok (.ifCond .eq 53, 3) := by decide +kernel
theorem dX9_memberRing_36 : decode cX9_memberRing 36 = .ok (.aload_n 1, 1) := by decide +kernel
theorem dX9_memberRing_37 : decode cX9_memberRing 37 = .ok (.iload_n 3, 1) := by decide +kernel
theorem dX9_memberRing_38 : decode cX9_memberRing 38 = .ok (.baload, 1) := by decide +kernel
theorem dX9_memberRing_39 : decode cX9_memberRing 39 = .ok (.ifCond .eq 47, 3) := by decide +kernel
theorem dX9_memberRing_42 : decode cX9_memberRing 42 = .ok (.aload_n 0, 1) := by decide +kernel
theorem dX9_memberRing_43 : decode cX9_memberRing 43 = .ok (.getfield 31, 3) := by decide +kernel
theorem dX9_memberRing_46 : decode cX9_memberRing 46 = .ok (.iload_n 2, 1) := by decide +kernel
theorem dX9_memberRing_47 : decode cX9_memberRing 47 = .ok (.iaload, 1) := by decide +kernel
theorem dX9_memberRing_48 : decode cX9_memberRing 48 = .ok (.iconst 2, 1) := by decide +kernel
theorem dX9_memberRing_49 : decode cX9_memberRing 49 = .ok (.if_icmp .eq 37, 3) := by decide +kernel
theorem dX9_memberRing_52 : decode cX9_memberRing 52 = .ok (.aload_n 0, 1) := by decide +kernel
theorem dX9_memberRing_53 : decode cX9_memberRing 53 = .ok (.getfield 31, 3) := by decide +kernel
theorem dX9_memberRing_56 : decode cX9_memberRing 56 = .ok (.iload_n 3, 1) := by decide +kernel
theorem dX9_memberRing_57 : decode cX9_memberRing 57 = .ok (.iaload, 1) := by decide +kernel
theorem dX9_memberRing_58 : decode cX9_memberRing 58 = .ok (.iconst 2, 1) := by decide +kernel
theorem dX9_memberRing_59 : decode cX9_memberRing 59 = .ok (.if_icmp .eq 27, 3) := by decide +kernel
theorem dX9_memberRing_62 : decode cX9_memberRing 62 = .ok (.aload_n 0, 1) := by decide +kernel
theorem dX9_memberRing_63 : decode cX9_memberRing 63 = .ok (.iconst 0, 1) := by decide +kernel
theorem dX9_memberRing_64 : decode cX9_memberRing 64 = .ok (.iload_n 2, 1) := by decide +kernel
theorem dX9_memberRing_65 : decode cX9_memberRing 65 = .ok (.iload_n 3, 1) := by decide +kernel
theorem dX9_memberRing_66 : decode cX9_memberRing 66 = .ok (.invokevirtual 150, 3) := by decide +kernel
theorem dX9_memberRing_69 : decode cX9_memberRing 69 = .ok (.ifCond .ne 13, 3) := by decide +kernel
theorem dX9_memberRing_72 : decode cX9_memberRing 72 = .ok (.aload_n 0, 1) := by decide +kernel
theorem dX9_memberRing_73 : decode cX9_memberRing 73 = .ok (.iconst 2, 1) := by decide +kernel
theorem dX9_memberRing_74 : decode cX9_memberRing 74 = .ok (.iload_n 2, 1) := by decide +kernel
theorem dX9_memberRing_75 : decode cX9_memberRing 75 = .ok (.iload_n 3, 1) := by decide +kernel
theorem dX9_memberRing_76 : decode cX9_memberRing 76 = .ok (.invokevirtual 150, 3) := by decide +kernel
theorem dX9_memberRing_79 : decode cX9_memberRing 79 = .ok (.ifCond .eq 7, 3) := by decide +kernel
theorem dX9_memberRing_82 : decode cX9_memberRing 82 = .ok (.iconst 1, 1) := by decide +kernel
theorem dX9_memberRing_83 : decode cX9_memberRing 83 = .ok (.goto 4, 3) := by decide +kernel
theorem dX9_memberRing_86 : decode cX9_memberRing 86 = .ok (.iconst 0, 1) := by decide +kernel
theorem dX9_memberRing_87 : decode cX9_memberRing 87 = .ok (.bastore, 1) := by decide +kernel
theorem dX9_memberRing_88 : decode cX9_memberRing 88 = .ok (.iinc 3 1, 3) := by decide +kernel
theorem dX9_memberRing_91 : decode cX9_memberRing 91 = .ok (.goto (-79), 3) := by decide +kernel
theorem dX9_memberRing_94 : decode cX9_memberRing 94 = .ok (.iinc 2 1, 3) := by decide +kernel
theorem dX9_memberRing_97 : decode cX9_memberRing 97 = .ok (.goto (-95), 3) := by decide +kernel
theorem dX9_memberRing_100 : decode cX9_memberRing 100 = .ok (.aload_n 0, 1) := by decide +kernel
theorem dX9_memberRing_101 : decode cX9_memberRing 101 = .ok (.invokevirtual 160, 3) := by decide +kernel
theorem dX9_memberRing_104 : decode cX9_memberRing 104 = .ok (.ireturn, 1) := by decide +kernel
theorem dX9_jobRing_0 : decode cX9_jobRing 0 = .ok (.iconst 0, 1) := by decide +kernel
theorem dX9_jobRing_1 : decode cX9_jobRing 1 = .ok (.istore_n 2, 1) := by decide +kernel
theorem dX9_jobRing_2 : decode cX9_jobRing 2 = .ok (.iload_n 2, 1) := by decide +kernel
theorem dX9_jobRing_3 : decode cX9_jobRing 3 = .ok (.aload_n 0, 1) := by decide +kernel
theorem dX9_jobRing_4 : decode cX9_jobRing 4 = .ok (.getfield 126, 3) := by decide +kernel
theorem dX9_jobRing_7 : decode cX9_jobRing 7 = .ok (.if_icmp .ge 43, 3) := by decide +kernel
theorem dX9_jobRing_10 : decode cX9_jobRing 10 = .ok (.iconst 0, 1) := by decide +kernel
theorem dX9_jobRing_11 : decode cX9_jobRing 11 = .ok (.istore_n 3, 1) := by decide +kernel
theorem dX9_jobRing_12 : decode cX9_jobRing 12 = .ok (.iload_n 3, 1) := by decide +kernel
theorem dX9_jobRing_13 : decode cX9_jobRing 13 = .ok (.aload_n 0, 1) := by decide +kernel
theorem dX9_jobRing_14 : decode cX9_jobRing 14 = .ok (.getfield 126, 3) := by decide +kernel
theorem dX9_jobRing_17 : decode cX9_jobRing 17 = .ok (.if_icmp .ge 27, 3) := by decide +kernel
theorem dX9_jobRing_20 : decode cX9_jobRing 20 = .ok (.aload_n 0, 1) := by decide +kernel
theorem dX9_jobRing_21 : decode cX9_jobRing 21 = .ok (.getfield 89, 3) := by decide +kernel
theorem dX9_jobRing_24 : decode cX9_jobRing 24 = .ok (.iload_n 2, 1) := by decide +kernel
theorem dX9_jobRing_25 : decode cX9_jobRing 25 = .ok (.bipush 40, 2) := by decide +kernel
theorem dX9_jobRing_27 : decode cX9_jobRing 27 = .ok (.imul, 1) := by decide +kernel
theorem dX9_jobRing_28 : decode cX9_jobRing 28 = .ok (.iload_n 3, 1) := by decide +kernel
theorem dX9_jobRing_29 : decode cX9_jobRing 29 = .ok (.iadd, 1) := by decide +kernel
theorem dX9_jobRing_30 : decode cX9_jobRing 30 = .ok (.aload_n 0, 1) := by decide +kernel
theorem dX9_jobRing_31 : decode cX9_jobRing 31 = .ok (.aload_n 1, 1) := by decide +kernel
theorem dX9_jobRing_32 : decode cX9_jobRing 32 = .ok (.iload_n 2, 1) := by decide +kernel
theorem dX9_jobRing_33 : decode cX9_jobRing 33 = .ok (.iload_n 3, 1) := by decide +kernel
theorem dX9_jobRing_34 : decode cX9_jobRing 34 = .ok (.invokevirtual 167, 3) := by decide +kernel
theorem dX9_jobRing_37 : decode cX9_jobRing 37 = .ok (.bastore, 1) := by decide +kernel
theorem dX9_jobRing_38 : decode cX9_jobRing 38 = .ok (.iinc 3 1, 3) := by decide +kernel
theorem dX9_jobRing_41 : decode cX9_jobRing 41 = .ok (.goto (-29), 3) := by decide +kernel
theorem dX9_jobRing_44 : decode cX9_jobRing 44 = .ok (.iinc 2 1, 3) := by decide +kernel
theorem dX9_jobRing_47 : decode cX9_jobRing 47 = .ok (.goto (-45), 3) := by decide +kernel
theorem dX9_jobRing_50 : decode cX9_jobRing 50 = .ok (.aload_n 0, 1) := by decide +kernel
theorem dX9_jobRing_51 : decode cX9_jobRing 51 = .ok (.invokevirtual 160, 3) := by decide +kernel
theorem dX9_jobRing_54 : decode cX9_jobRing 54 = .ok (.ireturn, 1) := by decide +kernel
theorem dX9_endJobs_0 : decode cX9_endJobs 0 = .ok (.iconst 0, 1) := by decide +kernel
theorem dX9_endJobs_1 : decode cX9_endJobs 1 = .ok (.istore_n 1, 1) := by decide +kernel
theorem dX9_endJobs_2 : decode cX9_endJobs 2 = .ok (.iload_n 1, 1) := by decide +kernel
theorem dX9_endJobs_3 : decode cX9_endJobs 3 = .ok (.aload_n 0, 1) := by decide +kernel
theorem dX9_endJobs_4 : decode cX9_endJobs 4 = .ok (.getfield 126, 3) := by decide +kernel
theorem dX9_endJobs_7 : decode cX9_endJobs 7 = .ok (.if_icmp .ge 66, 3) := by decide +kernel
theorem dX9_endJobs_10 : decode cX9_endJobs 10 = .ok (.aload_n 0, 1) := by decide +kernel
theorem dX9_endJobs_11 : decode cX9_endJobs 11 = .ok (.getfield 71, 3) := by decide +kernel
theorem dX9_endJobs_14 : decode cX9_endJobs 14 = .ok (.iload_n 1, 1) := by decide +kernel
theorem dX9_endJobs_15 : decode cX9_endJobs 15 = .ok (.iaload, 1) := by decide +kernel
theorem dX9_endJobs_16 : decode cX9_endJobs 16 = .ok (.ifCond .eq 51, 3) := by decide +kernel
theorem dX9_endJobs_19 : decode cX9_endJobs 19 = .ok (.aload_n 0, 1) := by decide +kernel
theorem dX9_endJobs_20 : decode cX9_endJobs 20 = .ok (.getfield 74, 3) := by decide +kernel
theorem dX9_endJobs_23 : decode cX9_endJobs 23 = .ok (.iload_n 1, 1) := by decide +kernel
theorem dX9_endJobs_24 : decode cX9_endJobs 24 = .ok (.baload, 1) := by decide +kernel
theorem dX9_endJobs_25 : decode cX9_endJobs 25 = .ok (.ifCond .eq 42, 3) := by decide +kernel
theorem dX9_endJobs_28 : decode cX9_endJobs 28 = .ok (.aload_n 0, 1) := by decide +kernel
theorem dX9_endJobs_29 : decode cX9_endJobs 29 = .ok (.getfield 71, 3) := by decide +kernel
theorem dX9_endJobs_32 : decode cX9_endJobs 32 = .ok (.iload_n 1, 1) := by decide +kernel
theorem dX9_endJobs_33 : decode cX9_endJobs 33 = .ok (.iaload, 1) := by decide +kernel
theorem dX9_endJobs_34 : decode cX9_endJobs 34 = .ok (.iconst 1, 1) := by decide +kernel
theorem dX9_endJobs_35 : decode cX9_endJobs 35 = .ok (.if_icmp .ne 16, 3) := by decide +kernel
theorem dX9_endJobs_38 : decode cX9_endJobs 38 = .ok (.aload_n 0, 1) := by decide +kernel
theorem dX9_endJobs_39 : decode cX9_endJobs 39 = .ok (.getfield 31, 3) := by decide +kernel
theorem dX9_endJobs_42 : decode cX9_endJobs 42 = .ok (.iload_n 1, 1) := by decide +kernel
theorem dX9_endJobs_43 : decode cX9_endJobs 43 = .ok (.iaload, 1) := by decide +kernel
theorem dX9_endJobs_44 : decode cX9_endJobs 44 = .ok (.iconst 1, 1) := by decide +kernel
theorem dX9_endJobs_45 : decode cX9_endJobs 45 = .ok (.if_icmp .eq 22, 3) := by decide +kernel
theorem dX9_endJobs_48 : decode cX9_endJobs 48 = .ok (.goto 12, 3) := by decide +kernel
theorem dX9_endJobs_51 : decode cX9_endJobs 51 = .ok (.aload_n 0, 1) := by decide +kernel
theorem dX9_endJobs_52 : decode cX9_endJobs 52 = .ok (.getfield 31, 3) := by decide +kernel
theorem dX9_endJobs_55 : decode cX9_endJobs 55 = .ok (.iload_n 1, 1) := by decide +kernel
theorem dX9_endJobs_56 : decode cX9_endJobs 56 = .ok (.iaload, 1) := by decide +kernel
theorem dX9_endJobs_57 : decode cX9_endJobs 57 = .ok (.ifCond .ne 10, 3) := by decide +kernel
theorem dX9_endJobs_60 : decode cX9_endJobs 60 = .ok (.aload_n 0, 1) := by decide +kernel
theorem dX9_endJobs_61 : decode cX9_endJobs 61 = .ok (.getfield 71, 3) := by decide +kernel
theorem dX9_endJobs_64 : decode cX9_endJobs 64 = .ok (.iload_n 1, 1) := by decide +kernel
theorem dX9_endJobs_65 : decode cX9_endJobs 65 = .ok (.iconst 0, 1) := by decide +kernel
theorem dX9_endJobs_66 : decode cX9_endJobs 66 = .ok (.iastore, 1) := by decide +kernel
theorem dX9_endJobs_67 : decode cX9_endJobs 67 = .ok (.iinc 1 1, 3) := by decide +kernel
theorem dX9_endJobs_70 : decode cX9_endJobs 70 = .ok (.goto (-68), 3) := by decide +kernel
theorem dX9_endJobs_73 : decode cX9_endJobs 73 = .ok (.return_, 1) := by decide +kernel
theorem dX9_isFree_0 : decode cX9_isFree 0 = .ok (.aload_n 0, 1) := by decide +kernel
theorem dX9_isFree_1 : decode cX9_isFree 1 = .ok (.iload_n 1, 1) := by decide +kernel
theorem dX9_isFree_2 : decode cX9_isFree 2 = .ok (.invokevirtual 231, 3) := by decide +kernel
theorem dX9_isFree_5 : decode cX9_isFree 5 = .ok (.istore_n 2, 1) := by decide +kernel
theorem dX9_isFree_6 : decode cX9_isFree 6 = .ok (.iconst 0, 1) := by decide +kernel
theorem dX9_isFree_7 : decode cX9_isFree 7 = .ok (.istore_n 3, 1) := by decide +kernel
theorem dX9_isFree_8 : decode cX9_isFree 8 = .ok (.iload_n 3, 1) := by decide +kernel
theorem dX9_isFree_9 : decode cX9_isFree 9 = .ok (.aload_n 0, 1) := by decide +kernel
theorem dX9_isFree_10 : decode cX9_isFree 10 = .ok (.getfield 126, 3) := by decide +kernel
theorem dX9_isFree_13 : decode cX9_isFree 13 = .ok (.if_icmp .ge 59, 3) := by decide +kernel
theorem dX9_isFree_16 : decode cX9_isFree 16 = .ok (.iload_n 2, 1) := by decide +kernel
theorem dX9_isFree_17 : decode cX9_isFree 17 = .ok (.ifCond .eq 47, 3) := by decide +kernel
theorem dX9_isFree_20 : decode cX9_isFree 20 = .ok (.aload_n 0, 1) := by decide +kernel
theorem dX9_isFree_21 : decode cX9_isFree 21 = .ok (.iconst 3, 1) := by decide +kernel
theorem dX9_isFree_22 : decode cX9_isFree 22 = .ok (.iload_n 1, 1) := by decide +kernel
theorem dX9_isFree_23 : decode cX9_isFree 23 = .ok (.iload_n 3, 1) := by decide +kernel
theorem dX9_isFree_24 : decode cX9_isFree 24 = .ok (.invokevirtual 150, 3) := by decide +kernel
theorem dX9_isFree_27 : decode cX9_isFree 27 = .ok (.ifCond .eq 33, 3) := by decide +kernel
theorem dX9_isFree_30 : decode cX9_isFree 30 = .ok (.aload_n 0, 1) := by decide +kernel
theorem dX9_isFree_31 : decode cX9_isFree 31 = .ok (.getfield 31, 3) := by decide +kernel
theorem dX9_isFree_34 : decode cX9_isFree 34 = .ok (.iload_n 3, 1) := by decide +kernel
theorem dX9_isFree_35 : decode cX9_isFree 35 = .ok (.iaload, 1) := by decide +kernel
theorem dX9_isFree_36 : decode cX9_isFree 36 = .ok (.iconst 1, 1) := by decide +kernel
theorem dX9_isFree_37 : decode cX9_isFree 37 = .ok (.if_icmp .eq 27, 3) := by decide +kernel
theorem dX9_isFree_40 : decode cX9_isFree 40 = .ok (.aload_n 0, 1) := by decide +kernel
theorem dX9_isFree_41 : decode cX9_isFree 41 = .ok (.getfield 31, 3) := by decide +kernel
theorem dX9_isFree_44 : decode cX9_isFree 44 = .ok (.iload_n 3, 1) := by decide +kernel
theorem dX9_isFree_45 : decode cX9_isFree 45 = .ok (.iaload, 1) := by decide +kernel
theorem dX9_isFree_46 : decode cX9_isFree 46 = .ok (.iconst 2, 1) := by decide +kernel
theorem dX9_isFree_47 : decode cX9_isFree 47 = .ok (.if_icmp .eq 17, 3) := by decide +kernel
theorem dX9_isFree_50 : decode cX9_isFree 50 = .ok (.aload_n 0, 1) := by decide +kernel
theorem dX9_isFree_51 : decode cX9_isFree 51 = .ok (.getfield 31, 3) := by decide +kernel
theorem dX9_isFree_54 : decode cX9_isFree 54 = .ok (.iload_n 3, 1) := by decide +kernel
theorem dX9_isFree_55 : decode cX9_isFree 55 = .ok (.iaload, 1) := by decide +kernel
theorem dX9_isFree_56 : decode cX9_isFree 56 = .ok (.iconst 3, 1) := by decide +kernel
theorem dX9_isFree_57 : decode cX9_isFree 57 = .ok (.if_icmp .eq 7, 3) := by decide +kernel
theorem dX9_isFree_60 : decode cX9_isFree 60 = .ok (.iconst 1, 1) := by decide +kernel
theorem dX9_isFree_61 : decode cX9_isFree 61 = .ok (.goto 4, 3) := by decide +kernel
theorem dX9_isFree_64 : decode cX9_isFree 64 = .ok (.iconst 0, 1) := by decide +kernel
theorem dX9_isFree_65 : decode cX9_isFree 65 = .ok (.istore_n 2, 1) := by decide +kernel
theorem dX9_isFree_66 : decode cX9_isFree 66 = .ok (.iinc 3 1, 3) := by decide +kernel
theorem dX9_isFree_69 : decode cX9_isFree 69 = .ok (.goto (-61), 3) := by decide +kernel
theorem dX9_isFree_72 : decode cX9_isFree 72 = .ok (.iload_n 2, 1) := by decide +kernel
theorem dX9_isFree_73 : decode cX9_isFree 73 = .ok (.ireturn, 1) := by decide +kernel
def wq_m_shortest : List Cond := [.code yX9_shortest cX9_shortest 6 (some .int), .fieldLink RX9 126 "ServiceTreeModel" "services" "I", .fieldLink RX9 92 "ServiceTreeModel" "far" "[I", .fieldLink RX9 89 "ServiceTreeModel" "edge" "[Z"] ++ (wsX90)
theorem in_m_shortest_X9 : ∀ w ∈ wsX90, w ∈ wq_m_shortest := fun _ h => List.mem_append_right _ (h)
set_option maxRecDepth 20000 in
theorem wi_m_shortest : ∀ w ∈ wq_m_shortest, w ∈ lw_tbl := List.forall_mem_append.mpr ⟨(by decide +kernel), inKX9⟩
set_option maxRecDepth 20000 in
theorem wg_m_shortest : GoodIn wq_m_shortest wq_m_shortest := goodIn_sub (fun _ h => h) (by decide +kernel)
def rm_m_shortest : Room := { frames := 0, cells := 0, slots := 0, locals := 0 }
set_option maxHeartbeats 4000000 in
set_option maxRecDepth 100000 in
theorem c_m_shortest (l : Launch) (dC : Nat → ClassId) (dI : Nat → Nat → Nat) (h : Nat) (a : Nat → Nat) (k : Nat → ClassId) (F : Nat → Nat → Int32) (V : Nat → Int32) (n b : Nat)  (sz : Nat) (hI0 : InvM n b F V) (hb0 : b + 0 < 2147483648)  : Met l yX9_shortest wq_m_shortest rm_m_shortest (va_Pc [.ref h] (fun U => U.heap.size = sz ∧ va_P (dC, dI) vwCl (mW h a k F V) U.heap ∧ va_K (dC, dI) vwCl (mT k) U ∧ va_D (fun _ => True) (mW h a k F V))) (va_Qi (fun (r : Int32) (u : (Nat → Nat → Int32) × (Nat → Int32)) => StM n (b + 0) F V u.1 u.2 ∧ (∀ j : Nat, j ∉ ([32] : List Nat) → u.1 j = F j) ∧ (∀ j : Nat, j ∉ ([] : List Nat) → u.2 j = V j) ∧ (True)) (fun (u : (Nat → Nat → Int32) × (Nat → Int32)) (t : State) => va_P (dC, dI) vwCl (mW h a k u.1 u.2) t.heap ∧ va_D (va_A (mW h a k F V) sz) (mW h a k u.1 u.2)) (va_A (mW h a k F V) sz)) 0 0 (va_A (mW h a k F V) sz) := by
  have hn : n ≤ 40 := hI0.1
  have hI : StM n b F V F V := StM.rf hI0
  have hU : ∀ j : Nat, j ∉ ([32] : List Nat) → F j = F j := fun _ _ => rfl
  have hV : ∀ j : Nat, j ∉ ([] : List Nat) → V j = V j := fun _ _ => rfl
  refine Met.ofW (cc := cX9_shortest) (maxL := 6) (ret := (some .int)) (by decide) rfl ?_
  intro p e s m args below meth c s₁ B hml hv
  obtain ⟨rfl, hsz, hP, hK, hD0⟩ := hv
  have hx := B.exec
  have hb := B.bytes
  have hr := B.returns
  have hts := atoms_spec (ws := wq_m_shortest) B.pre
  have hown : s.vm.findClass RX9 = some m.cls := findClass_of_methodNamed B.named
  have hlocks := B.notSynchronized
  subst hsz
  have hD := hD0.self (sz := s.heap.size)
  generalize hAe : va_A (mW h a k F V) s.heap.size = A at hD ⊢
  have hA : ∀ q : Nat, s.heap.size ≤ q → A q := fun q h => by rw [← hAe]; exact Or.inr h
  have hS : va_S A s.heap s.heap [] := va_S.rf
  have hl := lv_entry ([.ref h]) (n := 6) (Nat.le_of_ble_eq_true rfl)
  rw [lg_entry_eq]
  generalize (lg_sl ([.ref h]) ++ List.replicate (6 - (lg_sl ([.ref h])).length) Slot.unset).toArray = ls at hl ⊢
  have hl : lv_has ls 6 [(0, .ref h)] := hl
  refine mw_Q (fun Q0 hQ => ?_)
  refine lv_iconst (v := 0) hx hb dX9_shortest_0 (by decide) ?_
  refine lv_istore_n (lv' := [(1, .int 0), (0, .ref h)]) hx hb dX9_shortest_1 rfl hl (by decide) rfl (fun ls hl => ?_)
  refine lv_iconst (v := 0) hx hb dX9_shortest_2 (by decide) ?_
  refine lv_istore_n (lv' := [(2, .int 0), (1, .int 0), (0, .ref h)]) hx hb dX9_shortest_3 rfl hl (by decide) rfl (fun ls hl => ?_)
  have lp4 : ∀ (fu2 i1 : Nat) (y7 : Int32) (F5 : Nat → Nat → Int32) (V6 : Nat → Int32) (H : Heap) (locs : List Loc) (ls : Array Slot), n < i1 + fu2 → i1 ≤ n → StM n (b) F V F5 V6 → (∀ j : Nat, j ∉ ([32] : List Nat) → F5 j = F j) → (∀ j : Nat, j ∉ ([] : List Nat) → V6 j = V j) → va_P (dC, dI) vwCl (mW h a k F5 V6) H → va_D A (mW h a k F5 V6) → va_S A s.heap H locs → lv_has ls 6 [(2, .int (nI i1)), (1, .int y7), (0, .ref h)] → W p l e (headSpec wq_m_shortest rm_m_shortest).room s m ([.ref h] : List Value).toArray below meth c H locs 0 0 Q0 (F0 m 4 ls []) := by
    intro fu2
    induction fu2 with
    | zero =>
      intro i1 y7 F5 V6 H locs ls hf hi
      exact absurd hf (by omega)
    | succ fu2 ih3 =>
      intro i1 y7 F5 V6 H locs ls hfi1 hii1 hI hU hV hP hD hS hl
      refine lv_iload_n hx hb dX9_shortest_4 rfl (lv_at hl 0 rfl) ?_
      refine lv_aload_n hx hb dX9_shortest_5 rfl (lv_at hl 2 rfl) ?_
      refine va_get (D := (dC, dI)) (ci := 10) (v := .int (V6 21)) (C := RX9) (T := TX9) (N := 46) hx hb hts in_m_shortest_X9 hown hK hP 0 rfl rfl 21 (by decide) (hts (.fieldLink RX9 126 "ServiceTreeModel" "services" "I") (by decide +kernel)) (fun _ h9 => h9) rfl dX9_shortest_6 ?_
      refine p1_topr (v := .int (nI n)) (congrArg Value.int hI.1.2.1) ?_
      refine lv_icmp_ge (tgt := 192) hx hb dX9_shortest_9 (by decide) (fun c8 => ?_) (fun c8 => ?_)
      · replace c8 : n ≤ i1 := (nI_leI (a := n) (b := i1) (by omega) (by omega)).mp c8
        refine lv_iload_n hx hb dX9_shortest_192 rfl (lv_at hl 1 rfl) ?_
        rw [hQ]
        exact W.iret (v := y7) hx hb hr (fun t ht hW => ⟨⟨y7, (F5, V6), rfl, ⟨hI.mono (by omega), hU, hV, trivial⟩, by rw [ht]; exact hP, hD⟩, hS.F ht⟩) hS.2.2 dX9_shortest_193
      · replace c8 : ¬ (n ≤ i1) := fun q9 => c8 ((nI_leI (a := n) (b := i1) (by omega) (by omega)).mpr q9)
        refine lv_iconst (v := 0) hx hb dX9_shortest_12 (by decide) ?_
        refine lv_istore_n (lv' := [(3, .int 0), (2, .int (nI i1)), (1, .int y7), (0, .ref h)]) hx hb dX9_shortest_13 rfl hl (by decide) rfl (fun ls hl => ?_)
        have lp12 : ∀ (fu10 i9 : Nat)  (F13 : Nat → Nat → Int32) (V14 : Nat → Int32) (H : Heap) (locs : List Loc) (ls : Array Slot), n < i9 + fu10 → i9 ≤ n → StM n (b) F V F13 V14 → (∀ j : Nat, j ∉ ([32] : List Nat) → F13 j = F j) → (∀ j : Nat, j ∉ ([] : List Nat) → V14 j = V j) → va_P (dC, dI) vwCl (mW h a k F13 V14) H → va_D A (mW h a k F13 V14) → va_S A s.heap H locs → lv_has ls 6 [(3, .int (nI i9)), (2, .int (nI i1)), (1, .int y7), (0, .ref h)] → W p l e (headSpec wq_m_shortest rm_m_shortest).room s m ([.ref h] : List Value).toArray below meth c H locs 0 0 Q0 (F0 m 14 ls []) := by
          intro fu10
          induction fu10 with
          | zero =>
            intro i9  F13 V14 H locs ls hf hi
            exact absurd hf (by omega)
          | succ fu10 ih11 =>
            intro i9  F13 V14 H locs ls hfi9 hii9 hI hU hV hP hD hS hl
            refine lv_iload_n hx hb dX9_shortest_14 rfl (lv_at hl 0 rfl) ?_
            refine lv_aload_n hx hb dX9_shortest_15 rfl (lv_at hl 3 rfl) ?_
            refine va_get (D := (dC, dI)) (ci := 10) (v := .int (V14 21)) (C := RX9) (T := TX9) (N := 46) hx hb hts in_m_shortest_X9 hown hK hP 0 rfl rfl 21 (by decide) (hts (.fieldLink RX9 126 "ServiceTreeModel" "services" "I") (by decide +kernel)) (fun _ h9 => h9) rfl dX9_shortest_16 ?_
            refine p1_topr (v := .int (nI n)) (congrArg Value.int hI.1.2.1) ?_
            refine lv_icmp_ge (tgt := 53) hx hb dX9_shortest_19 (by decide) (fun c15 => ?_) (fun c15 => ?_)
            · replace c15 : n ≤ i9 := (nI_leI (a := n) (b := i9) (by omega) (by omega)).mp c15
              refine lv_iconst (v := 1) hx hb dX9_shortest_53 (by decide) ?_
              refine lv_istore_n (lv' := [(3, .int 1), (2, .int (nI i1)), (1, .int y7), (0, .ref h)]) hx hb dX9_shortest_54 rfl hl (by decide) rfl (fun ls hl => ?_)
              have lp19 : ∀ (fu17 i16 : Nat)  (F20 : Nat → Nat → Int32) (V21 : Nat → Int32) (H : Heap) (locs : List Loc) (ls : Array Slot), n < i16 + fu17 → i16 ≤ n → StM n (b) F V F20 V21 → (∀ j : Nat, j ∉ ([32] : List Nat) → F20 j = F j) → (∀ j : Nat, j ∉ ([] : List Nat) → V21 j = V j) → va_P (dC, dI) vwCl (mW h a k F20 V21) H → va_D A (mW h a k F20 V21) → va_S A s.heap H locs → lv_has ls 6 [(3, .int (nI i16)), (2, .int (nI i1)), (1, .int y7), (0, .ref h)] → W p l e (headSpec wq_m_shortest rm_m_shortest).room s m ([.ref h] : List Value).toArray below meth c H locs 0 0 Q0 (F0 m 55 ls []) := by
                intro fu17
                induction fu17 with
                | zero =>
                  intro i16  F20 V21 H locs ls hf hi
                  exact absurd hf (by omega)
                | succ fu17 ih18 =>
                  intro i16  F20 V21 H locs ls hfi16 hii16 hI hU hV hP hD hS hl
                  refine lv_iload_n hx hb dX9_shortest_55 rfl (lv_at hl 0 rfl) ?_
                  refine lv_aload_n hx hb dX9_shortest_56 rfl (lv_at hl 3 rfl) ?_
                  refine va_get (D := (dC, dI)) (ci := 10) (v := .int (V21 21)) (C := RX9) (T := TX9) (N := 46) hx hb hts in_m_shortest_X9 hown hK hP 0 rfl rfl 21 (by decide) (hts (.fieldLink RX9 126 "ServiceTreeModel" "services" "I") (by decide +kernel)) (fun _ h9 => h9) rfl dX9_shortest_57 ?_
                  refine p1_topr (v := .int (nI n)) (congrArg Value.int hI.1.2.1) ?_
                  refine lv_icmp_ge (tgt := 152) hx hb dX9_shortest_60 (by decide) (fun c22 => ?_) (fun c22 => ?_)
                  · replace c22 : n ≤ i16 := (nI_leI (a := n) (b := i16) (by omega) (by omega)).mp c22
                    refine lv_aload_n hx hb dX9_shortest_152 rfl (lv_at hl 3 rfl) ?_
                    refine va_get (D := (dC, dI)) (ci := 10) (v := .ref (a 32)) (C := RX9) (T := TX9) (N := 46) hx hb hts in_m_shortest_X9 hown hK hP 0 rfl rfl 32 (by decide) (hts (.fieldLink RX9 92 "ServiceTreeModel" "far" "[I") (by decide +kernel)) (fun _ h9 => h9) rfl dX9_shortest_153 ?_
                    refine lv_iload_n hx hb dX9_shortest_156 rfl (lv_at hl 1 rfl) ?_
                    refine va_iald (n := 40) (f := F20 32) hx hb hK hP 28 27 rfl rfl (vp_in_nI (n := i1) (by omega) (by decide)) dX9_shortest_157 ?_
                    refine lv_topi (fun x23 ex23 => ?_)
                    refine lv_if_le (tgt := 184) hx hb dX9_shortest_158 (by decide) (fun c24 => ?_) (fun c24 => ?_)
                    · refine lv_iload_n hx hb dX9_shortest_184 rfl (lv_at hl 2 rfl) ?_
                      refine lv_istore_n (lv' := [(1, .int y7), (3, .int (nI i16)), (2, .int (nI i1)), (0, .ref h)]) hx hb dX9_shortest_185 rfl hl (by decide) rfl (fun ls hl => ?_)
                      refine lv_iinc (v := nI (i1 + 1)) (lv' := [(2, .int (nI (i1 + 1))), (1, .int y7), (3, .int (nI i16)), (0, .ref h)]) hx hb dX9_shortest_186 hl (k := 2) rfl (nI_add i1 1) (by decide) rfl (fun ls hl => ?_)
                      refine lv_goto (tgt := 4) hx hb dX9_shortest_189 (by decide) ?_
                      exact ih3 (i1 + 1) y7 F20 V21 _ _ _ (by omega) (by omega) (hI.mono (by omega)) hU hV  hP hD hS (lv_sub hl [0, 1, 3] rfl)
                    · refine lv_iload_n hx hb dX9_shortest_161 rfl (lv_at hl 2 rfl) ?_
                      refine lv_if_eq (tgt := 175) hx hb dX9_shortest_162 (by decide) (fun c25 => ?_) (fun c25 => ?_)
                      · refine lv_aload_n hx hb dX9_shortest_175 rfl (lv_at hl 3 rfl) ?_
                        refine va_get (D := (dC, dI)) (ci := 10) (v := .ref (a 32)) (C := RX9) (T := TX9) (N := 46) hx hb hts in_m_shortest_X9 hown hK hP 0 rfl rfl 32 (by decide) (hts (.fieldLink RX9 92 "ServiceTreeModel" "far" "[I") (by decide +kernel)) (fun _ h9 => h9) rfl dX9_shortest_176 ?_
                        refine lv_iload_n hx hb dX9_shortest_179 rfl (lv_at hl 1 rfl) ?_
                        refine va_iald (n := 40) (f := F20 32) hx hb hK hP 28 27 rfl rfl (vp_in_nI (n := i1) (by omega) (by decide)) dX9_shortest_180 ?_
                        refine p1_topr (v := .int x23) (congrArg Value.int ex23.symm) ?_
                        refine lv_goto (tgt := 185) hx hb dX9_shortest_181 (by decide) ?_
                        refine lv_istore_n (lv' := [(1, .int x23), (3, .int (nI i16)), (2, .int (nI i1)), (0, .ref h)]) hx hb dX9_shortest_185 rfl hl (by decide) rfl (fun ls hl => ?_)
                        refine lv_iinc (v := nI (i1 + 1)) (lv' := [(2, .int (nI (i1 + 1))), (1, .int x23), (3, .int (nI i16)), (0, .ref h)]) hx hb dX9_shortest_186 hl (k := 2) rfl (nI_add i1 1) (by decide) rfl (fun ls hl => ?_)
                        refine lv_goto (tgt := 4) hx hb dX9_shortest_189 (by decide) ?_
                        exact ih3 (i1 + 1) x23 F20 V21 _ _ _ (by omega) (by omega) (hI.mono (by omega)) hU hV  hP hD hS (lv_sub hl [0, 1, 3] rfl)
                      · refine lv_aload_n hx hb dX9_shortest_165 rfl (lv_at hl 3 rfl) ?_
                        refine va_get (D := (dC, dI)) (ci := 10) (v := .ref (a 32)) (C := RX9) (T := TX9) (N := 46) hx hb hts in_m_shortest_X9 hown hK hP 0 rfl rfl 32 (by decide) (hts (.fieldLink RX9 92 "ServiceTreeModel" "far" "[I") (by decide +kernel)) (fun _ h9 => h9) rfl dX9_shortest_166 ?_
                        refine lv_iload_n hx hb dX9_shortest_169 rfl (lv_at hl 1 rfl) ?_
                        refine va_iald (n := 40) (f := F20 32) hx hb hK hP 28 27 rfl rfl (vp_in_nI (n := i1) (by omega) (by decide)) dX9_shortest_170 ?_
                        refine p1_topr (v := .int x23) (congrArg Value.int ex23.symm) ?_
                        refine lv_iload_n hx hb dX9_shortest_171 rfl (lv_at hl 2 rfl) ?_
                        refine lv_icmp_ge (tgt := 184) hx hb dX9_shortest_172 (by decide) (fun c28 => ?_) (fun c28 => ?_)
                        · refine lv_iload_n hx hb dX9_shortest_184 rfl (lv_at hl 2 rfl) ?_
                          refine lv_istore_n (lv' := [(1, .int y7), (3, .int (nI i16)), (2, .int (nI i1)), (0, .ref h)]) hx hb dX9_shortest_185 rfl hl (by decide) rfl (fun ls hl => ?_)
                          refine lv_iinc (v := nI (i1 + 1)) (lv' := [(2, .int (nI (i1 + 1))), (1, .int y7), (3, .int (nI i16)), (0, .ref h)]) hx hb dX9_shortest_186 hl (k := 2) rfl (nI_add i1 1) (by decide) rfl (fun ls hl => ?_)
                          refine lv_goto (tgt := 4) hx hb dX9_shortest_189 (by decide) ?_
                          exact ih3 (i1 + 1) y7 F20 V21 _ _ _ (by omega) (by omega) (hI.mono (by omega)) hU hV  hP hD hS (lv_sub hl [0, 1, 3] rfl)
                        · refine lv_aload_n hx hb dX9_shortest_175 rfl (lv_at hl 3 rfl) ?_
                          refine va_get (D := (dC, dI)) (ci := 10) (v := .ref (a 32)) (C := RX9) (T := TX9) (N := 46) hx hb hts in_m_shortest_X9 hown hK hP 0 rfl rfl 32 (by decide) (hts (.fieldLink RX9 92 "ServiceTreeModel" "far" "[I") (by decide +kernel)) (fun _ h9 => h9) rfl dX9_shortest_176 ?_
                          refine lv_iload_n hx hb dX9_shortest_179 rfl (lv_at hl 1 rfl) ?_
                          refine va_iald (n := 40) (f := F20 32) hx hb hK hP 28 27 rfl rfl (vp_in_nI (n := i1) (by omega) (by decide)) dX9_shortest_180 ?_
                          refine p1_topr (v := .int x23) (congrArg Value.int ex23.symm) ?_
                          refine lv_goto (tgt := 185) hx hb dX9_shortest_181 (by decide) ?_
                          refine lv_istore_n (lv' := [(1, .int x23), (3, .int (nI i16)), (2, .int (nI i1)), (0, .ref h)]) hx hb dX9_shortest_185 rfl hl (by decide) rfl (fun ls hl => ?_)
                          refine lv_iinc (v := nI (i1 + 1)) (lv' := [(2, .int (nI (i1 + 1))), (1, .int x23), (3, .int (nI i16)), (0, .ref h)]) hx hb dX9_shortest_186 hl (k := 2) rfl (nI_add i1 1) (by decide) rfl (fun ls hl => ?_)
                          refine lv_goto (tgt := 4) hx hb dX9_shortest_189 (by decide) ?_
                          exact ih3 (i1 + 1) x23 F20 V21 _ _ _ (by omega) (by omega) (hI.mono (by omega)) hU hV  hP hD hS (lv_sub hl [0, 1, 3] rfl)
                  · replace c22 : ¬ (n ≤ i16) := fun q9 => c22 ((nI_leI (a := n) (b := i16) (by omega) (by omega)).mpr q9)
                    refine lv_iconst (v := 0) hx hb dX9_shortest_63 (by decide) ?_
                    refine lv_istore (lv' := [(4, .int 0), (3, .int (nI i16)), (2, .int (nI i1)), (1, .int y7), (0, .ref h)]) hx hb dX9_shortest_64 hl (by decide) rfl (fun ls hl => ?_)
                    have lp33 : ∀ (fu31 i30 : Nat)  (F34 : Nat → Nat → Int32) (V35 : Nat → Int32) (H : Heap) (locs : List Loc) (ls : Array Slot), n < i30 + fu31 → i30 ≤ n → StM n (b) F V F34 V35 → (∀ j : Nat, j ∉ ([32] : List Nat) → F34 j = F j) → (∀ j : Nat, j ∉ ([] : List Nat) → V35 j = V j) → va_P (dC, dI) vwCl (mW h a k F34 V35) H → va_D A (mW h a k F34 V35) → va_S A s.heap H locs → lv_has ls 6 [(4, .int (nI i30)), (3, .int (nI i16)), (2, .int (nI i1)), (1, .int y7), (0, .ref h)] → W p l e (headSpec wq_m_shortest rm_m_shortest).room s m ([.ref h] : List Value).toArray below meth c H locs 0 0 Q0 (F0 m 66 ls []) := by
                      intro fu31
                      induction fu31 with
                      | zero =>
                        intro i30  F34 V35 H locs ls hf hi
                        exact absurd hf (by omega)
                      | succ fu31 ih32 =>
                        intro i30  F34 V35 H locs ls hfi30 hii30 hI hU hV hP hD hS hl
                        refine lv_iload hx hb dX9_shortest_66 (lv_at hl 0 rfl) ?_
                        refine lv_aload_n hx hb dX9_shortest_68 rfl (lv_at hl 4 rfl) ?_
                        refine va_get (D := (dC, dI)) (ci := 10) (v := .int (V35 21)) (C := RX9) (T := TX9) (N := 46) hx hb hts in_m_shortest_X9 hown hK hP 0 rfl rfl 21 (by decide) (hts (.fieldLink RX9 126 "ServiceTreeModel" "services" "I") (by decide +kernel)) (fun _ h9 => h9) rfl dX9_shortest_69 ?_
                        refine p1_topr (v := .int (nI n)) (congrArg Value.int hI.1.2.1) ?_
                        refine lv_icmp_ge (tgt := 146) hx hb dX9_shortest_72 (by decide) (fun c36 => ?_) (fun c36 => ?_)
                        · replace c36 : n ≤ i30 := (nI_leI (a := n) (b := i30) (by omega) (by omega)).mp c36
                          refine lv_iinc (v := nI (i16 + 1)) (lv' := [(3, .int (nI (i16 + 1))), (4, .int (nI i30)), (2, .int (nI i1)), (1, .int y7), (0, .ref h)]) hx hb dX9_shortest_146 hl (k := 1) rfl (nI_add i16 1) (by decide) rfl (fun ls hl => ?_)
                          refine lv_goto (tgt := 55) hx hb dX9_shortest_149 (by decide) ?_
                          exact ih18 (i16 + 1)  F34 V35 _ _ _ (by omega) (by omega) (hI.mono (by omega)) hU hV  hP hD hS (lv_sub hl [0, 2, 3, 4] rfl)
                        · replace c36 : ¬ (n ≤ i30) := fun q9 => c36 ((nI_leI (a := n) (b := i30) (by omega) (by omega)).mpr q9)
                          refine lv_iconst (v := 0) hx hb dX9_shortest_75 (by decide) ?_
                          refine lv_istore (lv' := [(5, .int 0), (4, .int (nI i30)), (3, .int (nI i16)), (2, .int (nI i1)), (1, .int y7), (0, .ref h)]) hx hb dX9_shortest_76 hl (by decide) rfl (fun ls hl => ?_)
                          have lp40 : ∀ (fu38 i37 : Nat)  (F41 : Nat → Nat → Int32) (V42 : Nat → Int32) (H : Heap) (locs : List Loc) (ls : Array Slot), n < i37 + fu38 → i37 ≤ n → StM n (b) F V F41 V42 → (∀ j : Nat, j ∉ ([32] : List Nat) → F41 j = F j) → (∀ j : Nat, j ∉ ([] : List Nat) → V42 j = V j) → va_P (dC, dI) vwCl (mW h a k F41 V42) H → va_D A (mW h a k F41 V42) → va_S A s.heap H locs → lv_has ls 6 [(5, .int (nI i37)), (4, .int (nI i30)), (3, .int (nI i16)), (2, .int (nI i1)), (1, .int y7), (0, .ref h)] → W p l e (headSpec wq_m_shortest rm_m_shortest).room s m ([.ref h] : List Value).toArray below meth c H locs 0 0 Q0 (F0 m 78 ls []) := by
                            intro fu38
                            induction fu38 with
                            | zero =>
                              intro i37  F41 V42 H locs ls hf hi
                              exact absurd hf (by omega)
                            | succ fu38 ih39 =>
                              intro i37  F41 V42 H locs ls hfi37 hii37 hI hU hV hP hD hS hl
                              refine lv_iload hx hb dX9_shortest_78 (lv_at hl 0 rfl) ?_
                              refine lv_aload_n hx hb dX9_shortest_80 rfl (lv_at hl 5 rfl) ?_
                              refine va_get (D := (dC, dI)) (ci := 10) (v := .int (V42 21)) (C := RX9) (T := TX9) (N := 46) hx hb hts in_m_shortest_X9 hown hK hP 0 rfl rfl 21 (by decide) (hts (.fieldLink RX9 126 "ServiceTreeModel" "services" "I") (by decide +kernel)) (fun _ h9 => h9) rfl dX9_shortest_81 ?_
                              refine p1_topr (v := .int (nI n)) (congrArg Value.int hI.1.2.1) ?_
                              refine lv_icmp_ge (tgt := 140) hx hb dX9_shortest_84 (by decide) (fun c43 => ?_) (fun c43 => ?_)
                              · replace c43 : n ≤ i37 := (nI_leI (a := n) (b := i37) (by omega) (by omega)).mp c43
                                refine lv_iinc (v := nI (i30 + 1)) (lv' := [(4, .int (nI (i30 + 1))), (5, .int (nI i37)), (3, .int (nI i16)), (2, .int (nI i1)), (1, .int y7), (0, .ref h)]) hx hb dX9_shortest_140 hl (k := 1) rfl (nI_add i30 1) (by decide) rfl (fun ls hl => ?_)
                                refine lv_goto (tgt := 66) hx hb dX9_shortest_143 (by decide) ?_
                                exact ih32 (i30 + 1)  F41 V42 _ _ _ (by omega) (by omega) (hI.mono (by omega)) hU hV  hP hD hS (lv_sub hl [0, 2, 3, 4, 5] rfl)
                              · replace c43 : ¬ (n ≤ i37) := fun q9 => c43 ((nI_leI (a := n) (b := i37) (by omega) (by omega)).mpr q9)
                                refine lv_aload_n hx hb dX9_shortest_87 rfl (lv_at hl 5 rfl) ?_
                                refine va_get (D := (dC, dI)) (ci := 10) (v := .ref (a 32)) (C := RX9) (T := TX9) (N := 46) hx hb hts in_m_shortest_X9 hown hK hP 0 rfl rfl 32 (by decide) (hts (.fieldLink RX9 92 "ServiceTreeModel" "far" "[I") (by decide +kernel)) (fun _ h9 => h9) rfl dX9_shortest_88 ?_
                                refine lv_iload hx hb dX9_shortest_91 (lv_at hl 1 rfl) ?_
                                refine va_iald (n := 40) (f := F41 32) hx hb hK hP 28 27 rfl rfl (vp_in_nI (n := i30) (by omega) (by decide)) dX9_shortest_93 ?_
                                refine lv_topi (fun x44 ex44 => ?_)
                                refine lv_iload_n hx hb dX9_shortest_94 rfl (lv_at hl 2 rfl) ?_
                                refine lv_icmp_ne (tgt := 140) hx hb dX9_shortest_95 (by decide) (fun c45 => ?_) (fun c45 => ?_)
                                · refine lv_iinc (v := nI (i30 + 1)) (lv' := [(4, .int (nI (i30 + 1))), (5, .int (nI i37)), (3, .int (nI i16)), (2, .int (nI i1)), (1, .int y7), (0, .ref h)]) hx hb dX9_shortest_140 hl (k := 1) rfl (nI_add i30 1) (by decide) rfl (fun ls hl => ?_)
                                  refine lv_goto (tgt := 66) hx hb dX9_shortest_143 (by decide) ?_
                                  exact ih32 (i30 + 1)  F41 V42 _ _ _ (by omega) (by omega) (hI.mono (by omega)) hU hV  hP hD hS (lv_sub hl [0, 2, 3, 4, 5] rfl)
                                · refine lv_aload_n hx hb dX9_shortest_98 rfl (lv_at hl 5 rfl) ?_
                                  refine va_get (D := (dC, dI)) (ci := 10) (v := .ref (a 32)) (C := RX9) (T := TX9) (N := 46) hx hb hts in_m_shortest_X9 hown hK hP 0 rfl rfl 32 (by decide) (hts (.fieldLink RX9 92 "ServiceTreeModel" "far" "[I") (by decide +kernel)) (fun _ h9 => h9) rfl dX9_shortest_99 ?_
                                  refine lv_iload hx hb dX9_shortest_102 (lv_at hl 0 rfl) ?_
                                  refine va_iald (n := 40) (f := F41 32) hx hb hK hP 28 27 rfl rfl (vp_in_nI (n := i37) (by omega) (by decide)) dX9_shortest_104 ?_
                                  refine lv_topi (fun x46 ex46 => ?_)
                                  refine lv_if_ne (tgt := 134) hx hb dX9_shortest_105 (by decide) (fun c47 => ?_) (fun c47 => ?_)
                                  · refine lv_iinc (v := nI (i37 + 1)) (lv' := [(5, .int (nI (i37 + 1))), (4, .int (nI i30)), (3, .int (nI i16)), (2, .int (nI i1)), (1, .int y7), (0, .ref h)]) hx hb dX9_shortest_134 hl (k := 0) rfl (nI_add i37 1) (by decide) rfl (fun ls hl => ?_)
                                    refine lv_goto (tgt := 78) hx hb dX9_shortest_137 (by decide) ?_
                                    exact ih39 (i37 + 1)  F41 V42 _ _ _ (by omega) (by omega) (hI.mono (by omega)) hU hV  hP hD hS (lv_sub hl [0, 1, 2, 3, 4, 5] rfl)
                                  · refine lv_aload_n hx hb dX9_shortest_108 rfl (lv_at hl 5 rfl) ?_
                                    refine va_get (D := (dC, dI)) (ci := 10) (v := .ref (a 31)) (C := RX9) (T := TX9) (N := 46) hx hb hts in_m_shortest_X9 hown hK hP 0 rfl rfl 31 (by decide) (hts (.fieldLink RX9 89 "ServiceTreeModel" "edge" "[Z") (by decide +kernel)) (fun _ h9 => h9) rfl dX9_shortest_109 ?_
                                    refine lv_iload hx hb dX9_shortest_112 (lv_at hl 1 rfl) ?_
                                    refine lv_bipush (v := 40) hx hb dX9_shortest_114 (by decide) ?_
                                    refine lv_imul hx hb dX9_shortest_116 ?_
                                    refine p1_topr (v := .int (nI (i30 * 40))) (congrArg Value.int (pk_mul i30 40)) ?_
                                    refine lv_iload hx hb dX9_shortest_117 (lv_at hl 0 rfl) ?_
                                    refine lv_iadd hx hb dX9_shortest_119 ?_
                                    refine p1_topr (v := .int (nI ((i30 * 40) + i37))) (congrArg Value.int (nI_add (i30 * 40) i37)) ?_
                                    refine va_zald (n := 1600) (f := F41 31) hx hb hK hP 27 26 rfl rfl (vp_in_nI (n := (i30 * 40) + i37) (by omega) (by decide)) dX9_shortest_120 ?_
                                    refine lv_topi (fun x48 ex48 => ?_)
                                    refine lv_if_eq (tgt := 134) hx hb dX9_shortest_121 (by decide) (fun c49 => ?_) (fun c49 => ?_)
                                    · refine lv_iinc (v := nI (i37 + 1)) (lv' := [(5, .int (nI (i37 + 1))), (4, .int (nI i30)), (3, .int (nI i16)), (2, .int (nI i1)), (1, .int y7), (0, .ref h)]) hx hb dX9_shortest_134 hl (k := 0) rfl (nI_add i37 1) (by decide) rfl (fun ls hl => ?_)
                                      refine lv_goto (tgt := 78) hx hb dX9_shortest_137 (by decide) ?_
                                      exact ih39 (i37 + 1)  F41 V42 _ _ _ (by omega) (by omega) (hI.mono (by omega)) hU hV  hP hD hS (lv_sub hl [0, 1, 2, 3, 4, 5] rfl)
                                    · refine lv_aload_n hx hb dX9_shortest_124 rfl (lv_at hl 5 rfl) ?_
                                      refine va_get (D := (dC, dI)) (ci := 10) (v := .ref (a 32)) (C := RX9) (T := TX9) (N := 46) hx hb hts in_m_shortest_X9 hown hK hP 0 rfl rfl 32 (by decide) (hts (.fieldLink RX9 92 "ServiceTreeModel" "far" "[I") (by decide +kernel)) (fun _ h9 => h9) rfl dX9_shortest_125 ?_
                                      refine lv_iload hx hb dX9_shortest_128 (lv_at hl 0 rfl) ?_
                                      refine lv_iload_n hx hb dX9_shortest_130 rfl (lv_at hl 2 rfl) ?_
                                      refine lv_iconst (v := 1) hx hb dX9_shortest_131 (by decide) ?_
                                      refine lv_iadd hx hb dX9_shortest_132 ?_
                                      refine p1_topr (v := .int (nI (i16 + 1))) (congrArg Value.int (nI_add i16 1)) ?_
                                      refine va_iast (n := 40) (f := F41 32) hx hb hK hP hD hS 28 27 rfl rfl (vp_in_nI (n := i37) (by omega) (by decide)) dX9_shortest_133 (fun H locs hP hD hS => ?_)
                                      rw [mW_set_32] at hP hD
                                      obtain ⟨F50, eF50⟩ : ∃ f9 : Nat → Nat → Int32, f9 = va_up F41 32 (upd (F41 32) (nI i37).toNatClampNeg (nI (i16 + 1))) := ⟨_, rfl⟩
                                      rw [← eF50] at hP hD
                                      replace hI : StM n (b) F V F50 V42 := ⟨by rw [eF50]; exact hI.1.setF (by decide), trivial⟩
                                      replace hU : ∀ j : Nat, j ∉ ([32] : List Nat) → F50 j = F j := by rw [eF50]; exact mw_up (by decide) hU
                                      refine lv_iinc (v := nI (i37 + 1)) (lv' := [(5, .int (nI (i37 + 1))), (4, .int (nI i30)), (3, .int (nI i16)), (2, .int (nI i1)), (1, .int y7), (0, .ref h)]) hx hb dX9_shortest_134 hl (k := 0) rfl (nI_add i37 1) (by decide) rfl (fun ls hl => ?_)
                                      refine lv_goto (tgt := 78) hx hb dX9_shortest_137 (by decide) ?_
                                      exact ih39 (i37 + 1)  F50 V42 _ _ _ (by omega) (by omega) (hI.mono (by omega)) hU hV  hP hD hS (lv_sub hl [0, 1, 2, 3, 4, 5] rfl)
                          exact lp40 (n + 1) 0  F34 V35 _ _ _ (by omega) (by omega) (hI.mono (by omega)) hU hV  hP hD hS hl
                    exact lp33 (n + 1) 0  F20 V21 _ _ _ (by omega) (by omega) (hI.mono (by omega)) hU hV  hP hD hS hl
              exact lp19 (n + 1) 1  F13 V14 _ _ _ (by omega) (by omega) (hI.mono (by omega)) hU hV  hP hD hS hl
            · replace c15 : ¬ (n ≤ i9) := fun q9 => c15 ((nI_leI (a := n) (b := i9) (by omega) (by omega)).mpr q9)
              refine lv_aload_n hx hb dX9_shortest_22 rfl (lv_at hl 3 rfl) ?_
              refine va_get (D := (dC, dI)) (ci := 10) (v := .ref (a 32)) (C := RX9) (T := TX9) (N := 46) hx hb hts in_m_shortest_X9 hown hK hP 0 rfl rfl 32 (by decide) (hts (.fieldLink RX9 92 "ServiceTreeModel" "far" "[I") (by decide +kernel)) (fun _ h9 => h9) rfl dX9_shortest_23 ?_
              refine lv_iload_n hx hb dX9_shortest_26 rfl (lv_at hl 0 rfl) ?_
              refine lv_aload_n hx hb dX9_shortest_27 rfl (lv_at hl 3 rfl) ?_
              refine va_get (D := (dC, dI)) (ci := 10) (v := .ref (a 31)) (C := RX9) (T := TX9) (N := 46) hx hb hts in_m_shortest_X9 hown hK hP 0 rfl rfl 31 (by decide) (hts (.fieldLink RX9 89 "ServiceTreeModel" "edge" "[Z") (by decide +kernel)) (fun _ h9 => h9) rfl dX9_shortest_28 ?_
              refine lv_iload_n hx hb dX9_shortest_31 rfl (lv_at hl 1 rfl) ?_
              refine lv_bipush (v := 40) hx hb dX9_shortest_32 (by decide) ?_
              refine lv_imul hx hb dX9_shortest_34 ?_
              refine p1_topr (v := .int (nI (i1 * 40))) (congrArg Value.int (pk_mul i1 40)) ?_
              refine lv_iload_n hx hb dX9_shortest_35 rfl (lv_at hl 0 rfl) ?_
              refine lv_iadd hx hb dX9_shortest_36 ?_
              refine p1_topr (v := .int (nI ((i1 * 40) + i9))) (congrArg Value.int (nI_add (i1 * 40) i9)) ?_
              refine va_zald (n := 1600) (f := F13 31) hx hb hK hP 27 26 rfl rfl (vp_in_nI (n := (i1 * 40) + i9) (by omega) (by decide)) dX9_shortest_37 ?_
              refine lv_topi (fun x51 ex51 => ?_)
              refine lv_if_eq (tgt := 45) hx hb dX9_shortest_38 (by decide) (fun c52 => ?_) (fun c52 => ?_)
              · refine lv_iconst (v := 0) hx hb dX9_shortest_45 (by decide) ?_
                refine va_iast (n := 40) (f := F13 32) hx hb hK hP hD hS 28 27 rfl rfl (vp_in_nI (n := i9) (by omega) (by decide)) dX9_shortest_46 (fun H locs hP hD hS => ?_)
                rw [mW_set_32] at hP hD
                obtain ⟨F53, eF53⟩ : ∃ f9 : Nat → Nat → Int32, f9 = va_up F13 32 (upd (F13 32) (nI i9).toNatClampNeg 0) := ⟨_, rfl⟩
                rw [← eF53] at hP hD
                replace hI : StM n (b) F V F53 V14 := ⟨by rw [eF53]; exact hI.1.setF (by decide), trivial⟩
                replace hU : ∀ j : Nat, j ∉ ([32] : List Nat) → F53 j = F j := by rw [eF53]; exact mw_up (by decide) hU
                refine lv_iinc (v := nI (i9 + 1)) (lv' := [(3, .int (nI (i9 + 1))), (2, .int (nI i1)), (1, .int y7), (0, .ref h)]) hx hb dX9_shortest_47 hl (k := 0) rfl (nI_add i9 1) (by decide) rfl (fun ls hl => ?_)
                refine lv_goto (tgt := 14) hx hb dX9_shortest_50 (by decide) ?_
                exact ih11 (i9 + 1)  F53 V14 _ _ _ (by omega) (by omega) (hI.mono (by omega)) hU hV  hP hD hS (lv_sub hl [0, 1, 2, 3] rfl)
              · refine lv_iconst (v := 1) hx hb dX9_shortest_41 (by decide) ?_
                refine lv_goto (tgt := 46) hx hb dX9_shortest_42 (by decide) ?_
                refine va_iast (n := 40) (f := F13 32) hx hb hK hP hD hS 28 27 rfl rfl (vp_in_nI (n := i9) (by omega) (by decide)) dX9_shortest_46 (fun H locs hP hD hS => ?_)
                rw [mW_set_32] at hP hD
                obtain ⟨F54, eF54⟩ : ∃ f9 : Nat → Nat → Int32, f9 = va_up F13 32 (upd (F13 32) (nI i9).toNatClampNeg 1) := ⟨_, rfl⟩
                rw [← eF54] at hP hD
                replace hI : StM n (b) F V F54 V14 := ⟨by rw [eF54]; exact hI.1.setF (by decide), trivial⟩
                replace hU : ∀ j : Nat, j ∉ ([32] : List Nat) → F54 j = F j := by rw [eF54]; exact mw_up (by decide) hU
                refine lv_iinc (v := nI (i9 + 1)) (lv' := [(3, .int (nI (i9 + 1))), (2, .int (nI i1)), (1, .int y7), (0, .ref h)]) hx hb dX9_shortest_47 hl (k := 0) rfl (nI_add i9 1) (by decide) rfl (fun ls hl => ?_)
                refine lv_goto (tgt := 14) hx hb dX9_shortest_50 (by decide) ?_
                exact ih11 (i9 + 1)  F54 V14 _ _ _ (by omega) (by omega) (hI.mono (by omega)) hU hV  hP hD hS (lv_sub hl [0, 1, 2, 3] rfl)
        exact lp12 (n + 1) 0  F5 V6 _ _ _ (by omega) (by omega) (hI.mono (by omega)) hU hV  hP hD hS hl
  exact lp4 (n + 1) 0 0 F V _ _ _ (by omega) (by omega) (hI.mono (by omega)) hU hV  hP hD hS hl
def wq_m_memberRing_member : List Cond := [.code yX9_memberRing cX9_memberRing 4 (some .int), .fieldLink RX9 126 "ServiceTreeModel" "services" "I", .fieldLink RX9 89 "ServiceTreeModel" "edge" "[Z", .fieldLink RX9 31 "ServiceTreeModel" "state" "[I", .methodLink RX9 160 yX9_shortest, .instanceMethod yX9_shortest, .selects RX9 yX9_shortest yX9_shortest, .initialized RX9, .methodLink RX9 150 yX9_has, .instanceMethod yX9_has, .selects RX9 yX9_has yX9_has] ++ (wsX90 ++ (wq_m_shortest ++ (wq_m_has)))
theorem in_m_memberRing_member_X9 : ∀ w ∈ wsX90, w ∈ wq_m_memberRing_member := fun _ h => List.mem_append_right _ (List.mem_append_left _ (h))
set_option maxRecDepth 20000 in
theorem wi_m_memberRing_member : ∀ w ∈ wq_m_memberRing_member, w ∈ lw_tbl := List.forall_mem_append.mpr ⟨(by decide +kernel), List.forall_mem_append.mpr ⟨inKX9, List.forall_mem_append.mpr ⟨wi_m_shortest, wi_m_has⟩⟩⟩
set_option maxRecDepth 20000 in
theorem wg_m_memberRing_member : GoodIn wq_m_memberRing_member wq_m_memberRing_member := goodIn_sub (fun _ h => h) (by decide +kernel)
set_option maxRecDepth 20000 in
theorem wc_m_memberRing_member_m_shortest_160 : GoodIn wq_m_memberRing_member (wsV RX9 160 RX9 yX9_shortest wq_m_shortest) := goodIn_app (goodIn_of _ (by decide +kernel)) (fun w h => ⟨List.mem_append_right _ (List.mem_append_right _ (List.mem_append_left _ (h))), (wg_m_shortest w h).2⟩)
set_option maxRecDepth 20000 in
theorem wc_m_memberRing_member_m_has_150 : GoodIn wq_m_memberRing_member (wsV RX9 150 RX9 yX9_has wq_m_has) := goodIn_app (goodIn_of _ (by decide +kernel)) (fun w h => ⟨List.mem_append_right _ (List.mem_append_right _ (List.mem_append_right _ (h))), (wg_m_has w h).2⟩)
def rm_m_memberRing_member : Room := { frames := 1, cells := 0, slots := 0, locals := 25 }
set_option maxHeartbeats 4000000 in
set_option maxRecDepth 100000 in
theorem c_m_memberRing_member (l : Launch) (dC : Nat → ClassId) (dI : Nat → Nat → Nat) (h : Nat) (a : Nat → Nat) (k : Nat → ClassId) (F : Nat → Nat → Int32) (V : Nat → Int32) (n b : Nat)  (sz : Nat) (hI0 : InvM n b F V) (hb0 : b + 0 < 2147483648)  : Met l yX9_memberRing wq_m_memberRing_member rm_m_memberRing_member (va_Pc [.ref h, .ref (a 27)] (fun U => U.heap.size = sz ∧ va_P (dC, dI) vwCl (mW h a k F V) U.heap ∧ va_K (dC, dI) vwCl (mT k) U ∧ va_D (fun _ => True) (mW h a k F V))) (va_Qi (fun (r : Int32) (u : (Nat → Nat → Int32) × (Nat → Int32)) => StM n (b + 0) F V u.1 u.2 ∧ (∀ j : Nat, j ∉ ([31, 32] : List Nat) → u.1 j = F j) ∧ (∀ j : Nat, j ∉ ([] : List Nat) → u.2 j = V j) ∧ (True)) (fun (u : (Nat → Nat → Int32) × (Nat → Int32)) (t : State) => va_P (dC, dI) vwCl (mW h a k u.1 u.2) t.heap ∧ va_D (va_A (mW h a k F V) sz) (mW h a k u.1 u.2)) (va_A (mW h a k F V) sz)) 0 0 (va_A (mW h a k F V) sz) := by
  have hn : n ≤ 40 := hI0.1
  have hI : StM n b F V F V := StM.rf hI0
  have hU : ∀ j : Nat, j ∉ ([31, 32] : List Nat) → F j = F j := fun _ _ => rfl
  have hV : ∀ j : Nat, j ∉ ([] : List Nat) → V j = V j := fun _ _ => rfl
  refine Met.ofW (cc := cX9_memberRing) (maxL := 4) (ret := (some .int)) (by decide) rfl ?_
  intro p e s m args below meth c s₁ B hml hv
  obtain ⟨rfl, hsz, hP, hK, hD0⟩ := hv
  have hx := B.exec
  have hb := B.bytes
  have hr := B.returns
  have hts := atoms_spec (ws := wq_m_memberRing_member) B.pre
  have hown : s.vm.findClass RX9 = some m.cls := findClass_of_methodNamed B.named
  have hlocks := B.notSynchronized
  subst hsz
  have hD := hD0.self (sz := s.heap.size)
  generalize hAe : va_A (mW h a k F V) s.heap.size = A at hD ⊢
  have hA : ∀ q : Nat, s.heap.size ≤ q → A q := fun q h => by rw [← hAe]; exact Or.inr h
  have hS : va_S A s.heap s.heap [] := va_S.rf
  have hl := lv_entry ([.ref h, .ref (a 27)]) (n := 4) (Nat.le_of_ble_eq_true rfl)
  rw [lg_entry_eq]
  generalize (lg_sl ([.ref h, .ref (a 27)]) ++ List.replicate (4 - (lg_sl ([.ref h, .ref (a 27)])).length) Slot.unset).toArray = ls at hl ⊢
  have hl : lv_has ls 4 [(0, .ref h), (1, .ref (a 27))] := hl
  refine mw_Q (fun Q0 hQ => ?_)
  refine lv_iconst (v := 0) hx hb dX9_memberRing_0 (by decide) ?_
  refine lv_istore_n (lv' := [(2, .int 0), (0, .ref h), (1, .ref (a 27))]) hx hb dX9_memberRing_1 rfl hl (by decide) rfl (fun ls hl => ?_)
  have lp4 : ∀ (fu2 i1 : Nat)  (F5 : Nat → Nat → Int32) (V6 : Nat → Int32) (H : Heap) (locs : List Loc) (ls : Array Slot), n < i1 + fu2 → i1 ≤ n → StM n (b) F V F5 V6 → (∀ j : Nat, j ∉ ([31, 32] : List Nat) → F5 j = F j) → (∀ j : Nat, j ∉ ([] : List Nat) → V6 j = V j) → va_P (dC, dI) vwCl (mW h a k F5 V6) H → va_D A (mW h a k F5 V6) → va_S A s.heap H locs → lv_has ls 4 [(2, .int (nI i1)), (0, .ref h), (1, .ref (a 27))] → W p l e (headSpec wq_m_memberRing_member rm_m_memberRing_member).room s m ([.ref h, .ref (a 27)] : List Value).toArray below meth c H locs 0 0 Q0 (F0 m 2 ls []) := by
    intro fu2
    induction fu2 with
    | zero =>
      intro i1  F5 V6 H locs ls hf hi
      exact absurd hf (by omega)
    | succ fu2 ih3 =>
      intro i1  F5 V6 H locs ls hfi1 hii1 hI hU hV hP hD hS hl
      refine lv_iload_n hx hb dX9_memberRing_2 rfl (lv_at hl 0 rfl) ?_
      refine lv_aload_n hx hb dX9_memberRing_3 rfl (lv_at hl 1 rfl) ?_
      refine va_get (D := (dC, dI)) (ci := 10) (v := .int (V6 21)) (C := RX9) (T := TX9) (N := 46) hx hb hts in_m_memberRing_member_X9 hown hK hP 0 rfl rfl 21 (by decide) (hts (.fieldLink RX9 126 "ServiceTreeModel" "services" "I") (by decide +kernel)) (fun _ h9 => h9) rfl dX9_memberRing_4 ?_
      refine p1_topr (v := .int (nI n)) (congrArg Value.int hI.1.2.1) ?_
      refine lv_icmp_ge (tgt := 100) hx hb dX9_memberRing_7 (by decide) (fun c7 => ?_) (fun c7 => ?_)
      · replace c7 : n ≤ i1 := (nI_leI (a := n) (b := i1) (by omega) (by omega)).mp c7
        refine lv_aload_n hx hb dX9_memberRing_100 rfl (lv_at hl 1 rfl) ?_
        have hFc := mw_free hD hS hA
        refine va_calli (va_runV (As := []) (rest := []) ⟨hx, hb, hml, hown, hts⟩ (c_m_shortest l dC dI h a k F5 V6 n (b)  H.size hI.1 (by omega) ) (cwV 0 hts wc_m_memberRing_member_m_shortest_160 rfl rfl rfl (by decide +kernel) ⟨Nat.le_of_ble_eq_true rfl, Nat.le_of_ble_eq_true rfl⟩) ⟨fun a9 U g mk q => by obtain ⟨q0, q1, qP, qK, qD⟩ := q; exact ⟨q0, q1, qP, va_K.moved (u := U) (U := U.calling g mk a9) (Vm.Alike.refl U.vm) qK, qD⟩, va_recv hK hP (ci := 10) (q0 := 0) rfl rfl, fun U hU hW => ⟨rfl, by rw [hU], by rw [hU]; exact hP, va_K.moved hW.alike hK, hD.weaken (fun _ _ _ _ => trivial)⟩⟩ rfl rfl hl.1 rfl (lv_room (Nat.le_of_ble_eq_true rfl)) dX9_memberRing_101 ⟨Nat.le_of_ble_eq_true rfl, Nat.le_of_ble_eq_true rfl⟩) hS (fun q _ h => hFc q h) hFc (fun r8 u t H1 locs ht hvm hw hB hz1 hk1 hS => ?_)
        obtain ⟨F9, V10⟩ := u
        replace hP := hB.1
        rw [ht] at hP
        replace hD : va_D A (mW h a k F9 V10) := hB.2.weaken (fun _ q _ h9 => hFc q.1 h9)
        clear hB
        generalize H1 = H at hP hS ⊢
        replace hP : va_P (dC, dI) vwCl (mW h a k F9 V10) H := hP
        obtain ⟨hwI, hwU, hwV, hw⟩ := hw
        replace hU : ∀ j : Nat, j ∉ ([31, 32] : List Nat) → F9 j = F j := mw_tr (by decide) hwU hU
        replace hV : ∀ j : Nat, j ∉ ([] : List Nat) → V10 j = V j := mw_tr (by decide) hwV hV
        replace hI : StM n (b + 0) F V F9 V10 := hI.trans hwI
        replace hI : StM n (b) F V F9 V10 := hI
        rw [hQ]
        exact W.iret (v := r8) hx hb hr (fun t ht hW => ⟨⟨r8, (F9, V10), rfl, ⟨hI.mono (by omega), hU, hV, trivial⟩, by rw [ht]; exact hP, hD⟩, hS.F ht⟩) hS.2.2 dX9_memberRing_104
      · replace c7 : ¬ (n ≤ i1) := fun q9 => c7 ((nI_leI (a := n) (b := i1) (by omega) (by omega)).mpr q9)
        refine lv_iconst (v := 0) hx hb dX9_memberRing_10 (by decide) ?_
        refine lv_istore_n (lv' := [(3, .int 0), (2, .int (nI i1)), (0, .ref h), (1, .ref (a 27))]) hx hb dX9_memberRing_11 rfl hl (by decide) rfl (fun ls hl => ?_)
        have lp14 : ∀ (fu12 i11 : Nat)  (F15 : Nat → Nat → Int32) (V16 : Nat → Int32) (H : Heap) (locs : List Loc) (ls : Array Slot), n < i11 + fu12 → i11 ≤ n → StM n (b) F V F15 V16 → (∀ j : Nat, j ∉ ([31, 32] : List Nat) → F15 j = F j) → (∀ j : Nat, j ∉ ([] : List Nat) → V16 j = V j) → va_P (dC, dI) vwCl (mW h a k F15 V16) H → va_D A (mW h a k F15 V16) → va_S A s.heap H locs → lv_has ls 4 [(3, .int (nI i11)), (2, .int (nI i1)), (0, .ref h), (1, .ref (a 27))] → W p l e (headSpec wq_m_memberRing_member rm_m_memberRing_member).room s m ([.ref h, .ref (a 27)] : List Value).toArray below meth c H locs 0 0 Q0 (F0 m 12 ls []) := by
          intro fu12
          induction fu12 with
          | zero =>
            intro i11  F15 V16 H locs ls hf hi
            exact absurd hf (by omega)
          | succ fu12 ih13 =>
            intro i11  F15 V16 H locs ls hfi11 hii11 hI hU hV hP hD hS hl
            refine lv_iload_n hx hb dX9_memberRing_12 rfl (lv_at hl 0 rfl) ?_
            refine lv_aload_n hx hb dX9_memberRing_13 rfl (lv_at hl 2 rfl) ?_
            refine va_get (D := (dC, dI)) (ci := 10) (v := .int (V16 21)) (C := RX9) (T := TX9) (N := 46) hx hb hts in_m_memberRing_member_X9 hown hK hP 0 rfl rfl 21 (by decide) (hts (.fieldLink RX9 126 "ServiceTreeModel" "services" "I") (by decide +kernel)) (fun _ h9 => h9) rfl dX9_memberRing_14 ?_
            refine p1_topr (v := .int (nI n)) (congrArg Value.int hI.1.2.1) ?_
            refine lv_icmp_ge (tgt := 94) hx hb dX9_memberRing_17 (by decide) (fun c17 => ?_) (fun c17 => ?_)
            · replace c17 : n ≤ i11 := (nI_leI (a := n) (b := i11) (by omega) (by omega)).mp c17
              refine lv_iinc (v := nI (i1 + 1)) (lv' := [(2, .int (nI (i1 + 1))), (3, .int (nI i11)), (0, .ref h), (1, .ref (a 27))]) hx hb dX9_memberRing_94 hl (k := 1) rfl (nI_add i1 1) (by decide) rfl (fun ls hl => ?_)
              refine lv_goto (tgt := 2) hx hb dX9_memberRing_97 (by decide) ?_
              exact ih3 (i1 + 1)  F15 V16 _ _ _ (by omega) (by omega) (hI.mono (by omega)) hU hV  hP hD hS (lv_sub hl [0, 2, 3] rfl)
            · replace c17 : ¬ (n ≤ i11) := fun q9 => c17 ((nI_leI (a := n) (b := i11) (by omega) (by omega)).mpr q9)
              refine lv_aload_n hx hb dX9_memberRing_20 rfl (lv_at hl 2 rfl) ?_
              refine va_get (D := (dC, dI)) (ci := 10) (v := .ref (a 31)) (C := RX9) (T := TX9) (N := 46) hx hb hts in_m_memberRing_member_X9 hown hK hP 0 rfl rfl 31 (by decide) (hts (.fieldLink RX9 89 "ServiceTreeModel" "edge" "[Z") (by decide +kernel)) (fun _ h9 => h9) rfl dX9_memberRing_21 ?_
              refine lv_iload_n hx hb dX9_memberRing_24 rfl (lv_at hl 1 rfl) ?_
              refine lv_bipush (v := 40) hx hb dX9_memberRing_25 (by decide) ?_
              refine lv_imul hx hb dX9_memberRing_27 ?_
              refine p1_topr (v := .int (nI (i1 * 40))) (congrArg Value.int (pk_mul i1 40)) ?_
              refine lv_iload_n hx hb dX9_memberRing_28 rfl (lv_at hl 0 rfl) ?_
              refine lv_iadd hx hb dX9_memberRing_29 ?_
              refine p1_topr (v := .int (nI ((i1 * 40) + i11))) (congrArg Value.int (nI_add (i1 * 40) i11)) ?_
              refine lv_aload_n hx hb dX9_memberRing_30 rfl (lv_at hl 3 rfl) ?_
              refine lv_iload_n hx hb dX9_memberRing_31 rfl (lv_at hl 1 rfl) ?_
              refine va_zald (n := 40) (f := F15 27) hx hb hK hP 23 22 rfl rfl (vp_in_nI (n := i1) (by omega) (by decide)) dX9_memberRing_32 ?_
              refine lv_topi (fun x18 ex18 => ?_)
              refine lv_if_eq (tgt := 86) hx hb dX9_memberRing_33 (by decide) (fun c19 => ?_) (fun c19 => ?_)
              · refine lv_iconst (v := 0) hx hb dX9_memberRing_86 (by decide) ?_
                refine va_zast (n := 1600) (f := F15 31) hx hb hK hP hD hS 27 26 rfl rfl (vp_in_nI (n := (i1 * 40) + i11) (by omega) (by decide)) dX9_memberRing_87 (fun H locs hP hD hS => ?_)
                rw [mW_set_31] at hP hD
                obtain ⟨F20, eF20⟩ : ∃ f9 : Nat → Nat → Int32, f9 = va_up F15 31 (upd (F15 31) (nI ((i1 * 40) + i11)).toNatClampNeg (vp_nar .boolean 0)) := ⟨_, rfl⟩
                rw [← eF20] at hP hD
                replace hI : StM n (b) F V F20 V16 := ⟨by rw [eF20]; exact hI.1.setF (by decide), trivial⟩
                replace hU : ∀ j : Nat, j ∉ ([31, 32] : List Nat) → F20 j = F j := by rw [eF20]; exact mw_up (by decide) hU
                refine lv_iinc (v := nI (i11 + 1)) (lv' := [(3, .int (nI (i11 + 1))), (2, .int (nI i1)), (0, .ref h), (1, .ref (a 27))]) hx hb dX9_memberRing_88 hl (k := 0) rfl (nI_add i11 1) (by decide) rfl (fun ls hl => ?_)
                refine lv_goto (tgt := 12) hx hb dX9_memberRing_91 (by decide) ?_
                exact ih13 (i11 + 1)  F20 V16 _ _ _ (by omega) (by omega) (hI.mono (by omega)) hU hV  hP hD hS (lv_sub hl [0, 1, 2, 3] rfl)
              · refine lv_aload_n hx hb dX9_memberRing_36 rfl (lv_at hl 3 rfl) ?_
                refine lv_iload_n hx hb dX9_memberRing_37 rfl (lv_at hl 0 rfl) ?_
                refine va_zald (n := 40) (f := F15 27) hx hb hK hP 23 22 rfl rfl (vp_in_nI (n := i11) (by omega) (by decide)) dX9_memberRing_38 ?_
                refine lv_topi (fun x21 ex21 => ?_)
                refine lv_if_eq (tgt := 86) hx hb dX9_memberRing_39 (by decide) (fun c22 => ?_) (fun c22 => ?_)
                · refine lv_iconst (v := 0) hx hb dX9_memberRing_86 (by decide) ?_
                  refine va_zast (n := 1600) (f := F15 31) hx hb hK hP hD hS 27 26 rfl rfl (vp_in_nI (n := (i1 * 40) + i11) (by omega) (by decide)) dX9_memberRing_87 (fun H locs hP hD hS => ?_)
                  rw [mW_set_31] at hP hD
                  obtain ⟨F23, eF23⟩ : ∃ f9 : Nat → Nat → Int32, f9 = va_up F15 31 (upd (F15 31) (nI ((i1 * 40) + i11)).toNatClampNeg (vp_nar .boolean 0)) := ⟨_, rfl⟩
                  rw [← eF23] at hP hD
                  replace hI : StM n (b) F V F23 V16 := ⟨by rw [eF23]; exact hI.1.setF (by decide), trivial⟩
                  replace hU : ∀ j : Nat, j ∉ ([31, 32] : List Nat) → F23 j = F j := by rw [eF23]; exact mw_up (by decide) hU
                  refine lv_iinc (v := nI (i11 + 1)) (lv' := [(3, .int (nI (i11 + 1))), (2, .int (nI i1)), (0, .ref h), (1, .ref (a 27))]) hx hb dX9_memberRing_88 hl (k := 0) rfl (nI_add i11 1) (by decide) rfl (fun ls hl => ?_)
                  refine lv_goto (tgt := 12) hx hb dX9_memberRing_91 (by decide) ?_
                  exact ih13 (i11 + 1)  F23 V16 _ _ _ (by omega) (by omega) (hI.mono (by omega)) hU hV  hP hD hS (lv_sub hl [0, 1, 2, 3] rfl)
                · refine lv_aload_n hx hb dX9_memberRing_42 rfl (lv_at hl 2 rfl) ?_
                  refine va_get (D := (dC, dI)) (ci := 10) (v := .ref (a 7)) (C := RX9) (T := TX9) (N := 46) hx hb hts in_m_memberRing_member_X9 hown hK hP 0 rfl rfl 7 (by decide) (hts (.fieldLink RX9 31 "ServiceTreeModel" "state" "[I") (by decide +kernel)) (fun _ h9 => h9) rfl dX9_memberRing_43 ?_
                  refine lv_iload_n hx hb dX9_memberRing_46 rfl (lv_at hl 1 rfl) ?_
                  refine va_iald (n := 40) (f := F15 7) hx hb hK hP 8 7 rfl rfl (vp_in_nI (n := i1) (by omega) (by decide)) dX9_memberRing_47 ?_
                  refine lv_topi (fun x24 ex24 => ?_)
                  refine lv_iconst (v := 2) hx hb dX9_memberRing_48 (by decide) ?_
                  refine lv_icmp_eq (tgt := 86) hx hb dX9_memberRing_49 (by decide) (fun c25 => ?_) (fun c25 => ?_)
                  · refine lv_iconst (v := 0) hx hb dX9_memberRing_86 (by decide) ?_
                    refine va_zast (n := 1600) (f := F15 31) hx hb hK hP hD hS 27 26 rfl rfl (vp_in_nI (n := (i1 * 40) + i11) (by omega) (by decide)) dX9_memberRing_87 (fun H locs hP hD hS => ?_)
                    rw [mW_set_31] at hP hD
                    obtain ⟨F26, eF26⟩ : ∃ f9 : Nat → Nat → Int32, f9 = va_up F15 31 (upd (F15 31) (nI ((i1 * 40) + i11)).toNatClampNeg (vp_nar .boolean 0)) := ⟨_, rfl⟩
                    rw [← eF26] at hP hD
                    replace hI : StM n (b) F V F26 V16 := ⟨by rw [eF26]; exact hI.1.setF (by decide), trivial⟩
                    replace hU : ∀ j : Nat, j ∉ ([31, 32] : List Nat) → F26 j = F j := by rw [eF26]; exact mw_up (by decide) hU
                    refine lv_iinc (v := nI (i11 + 1)) (lv' := [(3, .int (nI (i11 + 1))), (2, .int (nI i1)), (0, .ref h), (1, .ref (a 27))]) hx hb dX9_memberRing_88 hl (k := 0) rfl (nI_add i11 1) (by decide) rfl (fun ls hl => ?_)
                    refine lv_goto (tgt := 12) hx hb dX9_memberRing_91 (by decide) ?_
                    exact ih13 (i11 + 1)  F26 V16 _ _ _ (by omega) (by omega) (hI.mono (by omega)) hU hV  hP hD hS (lv_sub hl [0, 1, 2, 3] rfl)
                  · refine lv_aload_n hx hb dX9_memberRing_52 rfl (lv_at hl 2 rfl) ?_
                    refine va_get (D := (dC, dI)) (ci := 10) (v := .ref (a 7)) (C := RX9) (T := TX9) (N := 46) hx hb hts in_m_memberRing_member_X9 hown hK hP 0 rfl rfl 7 (by decide) (hts (.fieldLink RX9 31 "ServiceTreeModel" "state" "[I") (by decide +kernel)) (fun _ h9 => h9) rfl dX9_memberRing_53 ?_
                    refine lv_iload_n hx hb dX9_memberRing_56 rfl (lv_at hl 0 rfl) ?_
                    refine va_iald (n := 40) (f := F15 7) hx hb hK hP 8 7 rfl rfl (vp_in_nI (n := i11) (by omega) (by decide)) dX9_memberRing_57 ?_
                    refine lv_topi (fun x27 ex27 => ?_)
                    refine lv_iconst (v := 2) hx hb dX9_memberRing_58 (by decide) ?_
                    refine lv_icmp_eq (tgt := 86) hx hb dX9_memberRing_59 (by decide) (fun c28 => ?_) (fun c28 => ?_)
                    · refine lv_iconst (v := 0) hx hb dX9_memberRing_86 (by decide) ?_
                      refine va_zast (n := 1600) (f := F15 31) hx hb hK hP hD hS 27 26 rfl rfl (vp_in_nI (n := (i1 * 40) + i11) (by omega) (by decide)) dX9_memberRing_87 (fun H locs hP hD hS => ?_)
                      rw [mW_set_31] at hP hD
                      obtain ⟨F29, eF29⟩ : ∃ f9 : Nat → Nat → Int32, f9 = va_up F15 31 (upd (F15 31) (nI ((i1 * 40) + i11)).toNatClampNeg (vp_nar .boolean 0)) := ⟨_, rfl⟩
                      rw [← eF29] at hP hD
                      replace hI : StM n (b) F V F29 V16 := ⟨by rw [eF29]; exact hI.1.setF (by decide), trivial⟩
                      replace hU : ∀ j : Nat, j ∉ ([31, 32] : List Nat) → F29 j = F j := by rw [eF29]; exact mw_up (by decide) hU
                      refine lv_iinc (v := nI (i11 + 1)) (lv' := [(3, .int (nI (i11 + 1))), (2, .int (nI i1)), (0, .ref h), (1, .ref (a 27))]) hx hb dX9_memberRing_88 hl (k := 0) rfl (nI_add i11 1) (by decide) rfl (fun ls hl => ?_)
                      refine lv_goto (tgt := 12) hx hb dX9_memberRing_91 (by decide) ?_
                      exact ih13 (i11 + 1)  F29 V16 _ _ _ (by omega) (by omega) (hI.mono (by omega)) hU hV  hP hD hS (lv_sub hl [0, 1, 2, 3] rfl)
                    · refine lv_aload_n hx hb dX9_memberRing_62 rfl (lv_at hl 2 rfl) ?_
                      refine lv_iconst (v := 0) hx hb dX9_memberRing_63 (by decide) ?_
                      refine lv_iload_n hx hb dX9_memberRing_64 rfl (lv_at hl 1 rfl) ?_
                      refine lv_iload_n hx hb dX9_memberRing_65 rfl (lv_at hl 0 rfl) ?_
                      have hFc := mw_free hD hS hA
                      refine va_calli (va_runV (As := [.int 0, .int (nI i1), .int (nI i11)]) (rest := [.int (nI ((i1 * 40) + i11)), .ref (a 31)]) ⟨hx, hb, hml, hown, hts⟩ (c_m_has l dC dI h a k F15 V16 n (b) 0 i1 i11 H.size hI.1 (by omega) (by omega) (by omega) (by omega)) (cwV 3 hts wc_m_memberRing_member_m_has_150 rfl rfl rfl (by decide +kernel) ⟨Nat.le_of_ble_eq_true rfl, Nat.le_of_ble_eq_true rfl⟩) ⟨fun a9 U g mk q => by obtain ⟨q0, q1, qP, qK, qD⟩ := q; exact ⟨q0, q1, qP, va_K.moved (u := U) (U := U.calling g mk a9) (Vm.Alike.refl U.vm) qK, qD⟩, va_recv hK hP (ci := 10) (q0 := 0) rfl rfl, fun U hU hW => ⟨rfl, by rw [hU], by rw [hU]; exact hP, va_K.moved hW.alike hK, hD.weaken (fun _ _ _ _ => trivial)⟩⟩ rfl rfl hl.1 rfl (lv_room (Nat.le_of_ble_eq_true rfl)) dX9_memberRing_66 ⟨Nat.le_of_ble_eq_true rfl, Nat.le_of_ble_eq_true rfl⟩) hS (fun q _ h => hFc q h) hFc (fun r30 u t H1 locs ht hvm hw hB hz1 hk1 hS => ?_)
                      obtain ⟨F31, V32⟩ := u
                      replace hP := hB.1
                      rw [ht] at hP
                      replace hD : va_D A (mW h a k F31 V32) := hB.2.weaken (fun _ q _ h9 => hFc q.1 h9)
                      clear hB
                      generalize H1 = H at hP hS ⊢
                      replace hP : va_P (dC, dI) vwCl (mW h a k F31 V32) H := hP
                      obtain ⟨hwF, hwV, hw⟩ : F31 = F15 ∧ V32 = V16 ∧ _ := hw
                      rw [hwF, hwV] at hP hD
                      have br30 := hw
                      refine lv_if_ne (tgt := 82) hx hb dX9_memberRing_69 (by decide) (fun c33 => ?_) (fun c33 => ?_)
                      · refine lv_iconst (v := 1) hx hb dX9_memberRing_82 (by decide) ?_
                        refine lv_goto (tgt := 87) hx hb dX9_memberRing_83 (by decide) ?_
                        refine va_zast (n := 1600) (f := F15 31) hx hb hK hP hD hS 27 26 rfl rfl (vp_in_nI (n := (i1 * 40) + i11) (by omega) (by decide)) dX9_memberRing_87 (fun H locs hP hD hS => ?_)
                        rw [mW_set_31] at hP hD
                        obtain ⟨F34, eF34⟩ : ∃ f9 : Nat → Nat → Int32, f9 = va_up F15 31 (upd (F15 31) (nI ((i1 * 40) + i11)).toNatClampNeg (vp_nar .boolean 1)) := ⟨_, rfl⟩
                        rw [← eF34] at hP hD
                        replace hI : StM n (b) F V F34 V16 := ⟨by rw [eF34]; exact hI.1.setF (by decide), trivial⟩
                        replace hU : ∀ j : Nat, j ∉ ([31, 32] : List Nat) → F34 j = F j := by rw [eF34]; exact mw_up (by decide) hU
                        refine lv_iinc (v := nI (i11 + 1)) (lv' := [(3, .int (nI (i11 + 1))), (2, .int (nI i1)), (0, .ref h), (1, .ref (a 27))]) hx hb dX9_memberRing_88 hl (k := 0) rfl (nI_add i11 1) (by decide) rfl (fun ls hl => ?_)
                        refine lv_goto (tgt := 12) hx hb dX9_memberRing_91 (by decide) ?_
                        exact ih13 (i11 + 1)  F34 V16 _ _ _ (by omega) (by omega) (hI.mono (by omega)) hU hV  hP hD hS (lv_sub hl [0, 1, 2, 3] rfl)
                      · refine lv_aload_n hx hb dX9_memberRing_72 rfl (lv_at hl 2 rfl) ?_
                        refine lv_iconst (v := 2) hx hb dX9_memberRing_73 (by decide) ?_
                        refine lv_iload_n hx hb dX9_memberRing_74 rfl (lv_at hl 1 rfl) ?_
                        refine lv_iload_n hx hb dX9_memberRing_75 rfl (lv_at hl 0 rfl) ?_
                        have hFc := mw_free hD hS hA
                        refine va_calli (va_runV (As := [.int 2, .int (nI i1), .int (nI i11)]) (rest := [.int (nI ((i1 * 40) + i11)), .ref (a 31)]) ⟨hx, hb, hml, hown, hts⟩ (c_m_has l dC dI h a k F15 V16 n (b) 2 i1 i11 H.size hI.1 (by omega) (by omega) (by omega) (by omega)) (cwV 3 hts wc_m_memberRing_member_m_has_150 rfl rfl rfl (by decide +kernel) ⟨Nat.le_of_ble_eq_true rfl, Nat.le_of_ble_eq_true rfl⟩) ⟨fun a9 U g mk q => by obtain ⟨q0, q1, qP, qK, qD⟩ := q; exact ⟨q0, q1, qP, va_K.moved (u := U) (U := U.calling g mk a9) (Vm.Alike.refl U.vm) qK, qD⟩, va_recv hK hP (ci := 10) (q0 := 0) rfl rfl, fun U hU hW => ⟨rfl, by rw [hU], by rw [hU]; exact hP, va_K.moved hW.alike hK, hD.weaken (fun _ _ _ _ => trivial)⟩⟩ rfl rfl hl.1 rfl (lv_room (Nat.le_of_ble_eq_true rfl)) dX9_memberRing_76 ⟨Nat.le_of_ble_eq_true rfl, Nat.le_of_ble_eq_true rfl⟩) hS (fun q _ h => hFc q h) hFc (fun r35 u t H1 locs ht hvm hw hB hz1 hk1 hS => ?_)
                        obtain ⟨F36, V37⟩ := u
                        replace hP := hB.1
                        rw [ht] at hP
                        replace hD : va_D A (mW h a k F36 V37) := hB.2.weaken (fun _ q _ h9 => hFc q.1 h9)
                        clear hB
                        generalize H1 = H at hP hS ⊢
                        replace hP : va_P (dC, dI) vwCl (mW h a k F36 V37) H := hP
                        obtain ⟨hwF, hwV, hw⟩ : F36 = F15 ∧ V37 = V16 ∧ _ := hw
                        rw [hwF, hwV] at hP hD
                        have br35 := hw
                        refine lv_if_eq (tgt := 86) hx hb dX9_memberRing_79 (by decide) (fun c38 => ?_) (fun c38 => ?_)
                        · refine lv_iconst (v := 0) hx hb dX9_memberRing_86 (by decide) ?_
                          refine va_zast (n := 1600) (f := F15 31) hx hb hK hP hD hS 27 26 rfl rfl (vp_in_nI (n := (i1 * 40) + i11) (by omega) (by decide)) dX9_memberRing_87 (fun H locs hP hD hS => ?_)
                          rw [mW_set_31] at hP hD
                          obtain ⟨F39, eF39⟩ : ∃ f9 : Nat → Nat → Int32, f9 = va_up F15 31 (upd (F15 31) (nI ((i1 * 40) + i11)).toNatClampNeg (vp_nar .boolean 0)) := ⟨_, rfl⟩
                          rw [← eF39] at hP hD
                          replace hI : StM n (b) F V F39 V16 := ⟨by rw [eF39]; exact hI.1.setF (by decide), trivial⟩
                          replace hU : ∀ j : Nat, j ∉ ([31, 32] : List Nat) → F39 j = F j := by rw [eF39]; exact mw_up (by decide) hU
                          refine lv_iinc (v := nI (i11 + 1)) (lv' := [(3, .int (nI (i11 + 1))), (2, .int (nI i1)), (0, .ref h), (1, .ref (a 27))]) hx hb dX9_memberRing_88 hl (k := 0) rfl (nI_add i11 1) (by decide) rfl (fun ls hl => ?_)
                          refine lv_goto (tgt := 12) hx hb dX9_memberRing_91 (by decide) ?_
                          exact ih13 (i11 + 1)  F39 V16 _ _ _ (by omega) (by omega) (hI.mono (by omega)) hU hV  hP hD hS (lv_sub hl [0, 1, 2, 3] rfl)
                        · refine lv_iconst (v := 1) hx hb dX9_memberRing_82 (by decide) ?_
                          refine lv_goto (tgt := 87) hx hb dX9_memberRing_83 (by decide) ?_
                          refine va_zast (n := 1600) (f := F15 31) hx hb hK hP hD hS 27 26 rfl rfl (vp_in_nI (n := (i1 * 40) + i11) (by omega) (by decide)) dX9_memberRing_87 (fun H locs hP hD hS => ?_)
                          rw [mW_set_31] at hP hD
                          obtain ⟨F40, eF40⟩ : ∃ f9 : Nat → Nat → Int32, f9 = va_up F15 31 (upd (F15 31) (nI ((i1 * 40) + i11)).toNatClampNeg (vp_nar .boolean 1)) := ⟨_, rfl⟩
                          rw [← eF40] at hP hD
                          replace hI : StM n (b) F V F40 V16 := ⟨by rw [eF40]; exact hI.1.setF (by decide), trivial⟩
                          replace hU : ∀ j : Nat, j ∉ ([31, 32] : List Nat) → F40 j = F j := by rw [eF40]; exact mw_up (by decide) hU
                          refine lv_iinc (v := nI (i11 + 1)) (lv' := [(3, .int (nI (i11 + 1))), (2, .int (nI i1)), (0, .ref h), (1, .ref (a 27))]) hx hb dX9_memberRing_88 hl (k := 0) rfl (nI_add i11 1) (by decide) rfl (fun ls hl => ?_)
                          refine lv_goto (tgt := 12) hx hb dX9_memberRing_91 (by decide) ?_
                          exact ih13 (i11 + 1)  F40 V16 _ _ _ (by omega) (by omega) (hI.mono (by omega)) hU hV  hP hD hS (lv_sub hl [0, 1, 2, 3] rfl)
        exact lp14 (n + 1) 0  F5 V6 _ _ _ (by omega) (by omega) (hI.mono (by omega)) hU hV  hP hD hS hl
  exact lp4 (n + 1) 0  F V _ _ _ (by omega) (by omega) (hI.mono (by omega)) hU hV  hP hD hS hl
def wq_m_memberRing_more : List Cond := [.code yX9_memberRing cX9_memberRing 4 (some .int), .fieldLink RX9 126 "ServiceTreeModel" "services" "I", .fieldLink RX9 89 "ServiceTreeModel" "edge" "[Z", .fieldLink RX9 31 "ServiceTreeModel" "state" "[I", .methodLink RX9 160 yX9_shortest, .instanceMethod yX9_shortest, .selects RX9 yX9_shortest yX9_shortest, .initialized RX9, .methodLink RX9 150 yX9_has, .instanceMethod yX9_has, .selects RX9 yX9_has yX9_has] ++ (wsX90 ++ (wq_m_shortest ++ (wq_m_has)))
theorem in_m_memberRing_more_X9 : ∀ w ∈ wsX90, w ∈ wq_m_memberRing_more := fun _ h => List.mem_append_right _ (List.mem_append_left _ (h))
set_option maxRecDepth 20000 in
theorem wi_m_memberRing_more : ∀ w ∈ wq_m_memberRing_more, w ∈ lw_tbl := List.forall_mem_append.mpr ⟨(by decide +kernel), List.forall_mem_append.mpr ⟨inKX9, List.forall_mem_append.mpr ⟨wi_m_shortest, wi_m_has⟩⟩⟩
set_option maxRecDepth 20000 in
theorem wg_m_memberRing_more : GoodIn wq_m_memberRing_more wq_m_memberRing_more := goodIn_sub (fun _ h => h) (by decide +kernel)
set_option maxRecDepth 20000 in
theorem wc_m_memberRing_more_m_shortest_160 : GoodIn wq_m_memberRing_more (wsV RX9 160 RX9 yX9_shortest wq_m_shortest) := goodIn_app (goodIn_of _ (by decide +kernel)) (fun w h => ⟨List.mem_append_right _ (List.mem_append_right _ (List.mem_append_left _ (h))), (wg_m_shortest w h).2⟩)
set_option maxRecDepth 20000 in
theorem wc_m_memberRing_more_m_has_150 : GoodIn wq_m_memberRing_more (wsV RX9 150 RX9 yX9_has wq_m_has) := goodIn_app (goodIn_of _ (by decide +kernel)) (fun w h => ⟨List.mem_append_right _ (List.mem_append_right _ (List.mem_append_right _ (h))), (wg_m_has w h).2⟩)
def rm_m_memberRing_more : Room := { frames := 1, cells := 0, slots := 0, locals := 25 }
set_option maxHeartbeats 4000000 in
set_option maxRecDepth 100000 in
theorem c_m_memberRing_more (l : Launch) (dC : Nat → ClassId) (dI : Nat → Nat → Nat) (h : Nat) (a : Nat → Nat) (k : Nat → ClassId) (F : Nat → Nat → Int32) (V : Nat → Int32) (n b : Nat)  (sz : Nat) (hI0 : InvM n b F V) (hb0 : b + 0 < 2147483648)  : Met l yX9_memberRing wq_m_memberRing_more rm_m_memberRing_more (va_Pc [.ref h, .ref (a 28)] (fun U => U.heap.size = sz ∧ va_P (dC, dI) vwCl (mW h a k F V) U.heap ∧ va_K (dC, dI) vwCl (mT k) U ∧ va_D (fun _ => True) (mW h a k F V))) (va_Qi (fun (r : Int32) (u : (Nat → Nat → Int32) × (Nat → Int32)) => StM n (b + 0) F V u.1 u.2 ∧ (∀ j : Nat, j ∉ ([31, 32] : List Nat) → u.1 j = F j) ∧ (∀ j : Nat, j ∉ ([] : List Nat) → u.2 j = V j) ∧ (True)) (fun (u : (Nat → Nat → Int32) × (Nat → Int32)) (t : State) => va_P (dC, dI) vwCl (mW h a k u.1 u.2) t.heap ∧ va_D (va_A (mW h a k F V) sz) (mW h a k u.1 u.2)) (va_A (mW h a k F V) sz)) 0 0 (va_A (mW h a k F V) sz) := by
  have hn : n ≤ 40 := hI0.1
  have hI : StM n b F V F V := StM.rf hI0
  have hU : ∀ j : Nat, j ∉ ([31, 32] : List Nat) → F j = F j := fun _ _ => rfl
  have hV : ∀ j : Nat, j ∉ ([] : List Nat) → V j = V j := fun _ _ => rfl
  refine Met.ofW (cc := cX9_memberRing) (maxL := 4) (ret := (some .int)) (by decide) rfl ?_
  intro p e s m args below meth c s₁ B hml hv
  obtain ⟨rfl, hsz, hP, hK, hD0⟩ := hv
  have hx := B.exec
  have hb := B.bytes
  have hr := B.returns
  have hts := atoms_spec (ws := wq_m_memberRing_more) B.pre
  have hown : s.vm.findClass RX9 = some m.cls := findClass_of_methodNamed B.named
  have hlocks := B.notSynchronized
  subst hsz
  have hD := hD0.self (sz := s.heap.size)
  generalize hAe : va_A (mW h a k F V) s.heap.size = A at hD ⊢
  have hA : ∀ q : Nat, s.heap.size ≤ q → A q := fun q h => by rw [← hAe]; exact Or.inr h
  have hS : va_S A s.heap s.heap [] := va_S.rf
  have hl := lv_entry ([.ref h, .ref (a 28)]) (n := 4) (Nat.le_of_ble_eq_true rfl)
  rw [lg_entry_eq]
  generalize (lg_sl ([.ref h, .ref (a 28)]) ++ List.replicate (4 - (lg_sl ([.ref h, .ref (a 28)])).length) Slot.unset).toArray = ls at hl ⊢
  have hl : lv_has ls 4 [(0, .ref h), (1, .ref (a 28))] := hl
  refine mw_Q (fun Q0 hQ => ?_)
  refine lv_iconst (v := 0) hx hb dX9_memberRing_0 (by decide) ?_
  refine lv_istore_n (lv' := [(2, .int 0), (0, .ref h), (1, .ref (a 28))]) hx hb dX9_memberRing_1 rfl hl (by decide) rfl (fun ls hl => ?_)
  have lp4 : ∀ (fu2 i1 : Nat)  (F5 : Nat → Nat → Int32) (V6 : Nat → Int32) (H : Heap) (locs : List Loc) (ls : Array Slot), n < i1 + fu2 → i1 ≤ n → StM n (b) F V F5 V6 → (∀ j : Nat, j ∉ ([31, 32] : List Nat) → F5 j = F j) → (∀ j : Nat, j ∉ ([] : List Nat) → V6 j = V j) → va_P (dC, dI) vwCl (mW h a k F5 V6) H → va_D A (mW h a k F5 V6) → va_S A s.heap H locs → lv_has ls 4 [(2, .int (nI i1)), (0, .ref h), (1, .ref (a 28))] → W p l e (headSpec wq_m_memberRing_more rm_m_memberRing_more).room s m ([.ref h, .ref (a 28)] : List Value).toArray below meth c H locs 0 0 Q0 (F0 m 2 ls []) := by
    intro fu2
    induction fu2 with
    | zero =>
      intro i1  F5 V6 H locs ls hf hi
      exact absurd hf (by omega)
    | succ fu2 ih3 =>
      intro i1  F5 V6 H locs ls hfi1 hii1 hI hU hV hP hD hS hl
      refine lv_iload_n hx hb dX9_memberRing_2 rfl (lv_at hl 0 rfl) ?_
      refine lv_aload_n hx hb dX9_memberRing_3 rfl (lv_at hl 1 rfl) ?_
      refine va_get (D := (dC, dI)) (ci := 10) (v := .int (V6 21)) (C := RX9) (T := TX9) (N := 46) hx hb hts in_m_memberRing_more_X9 hown hK hP 0 rfl rfl 21 (by decide) (hts (.fieldLink RX9 126 "ServiceTreeModel" "services" "I") (by decide +kernel)) (fun _ h9 => h9) rfl dX9_memberRing_4 ?_
      refine p1_topr (v := .int (nI n)) (congrArg Value.int hI.1.2.1) ?_
      refine lv_icmp_ge (tgt := 100) hx hb dX9_memberRing_7 (by decide) (fun c7 => ?_) (fun c7 => ?_)
      · replace c7 : n ≤ i1 := (nI_leI (a := n) (b := i1) (by omega) (by omega)).mp c7
        refine lv_aload_n hx hb dX9_memberRing_100 rfl (lv_at hl 1 rfl) ?_
        have hFc := mw_free hD hS hA
        refine va_calli (va_runV (As := []) (rest := []) ⟨hx, hb, hml, hown, hts⟩ (c_m_shortest l dC dI h a k F5 V6 n (b)  H.size hI.1 (by omega) ) (cwV 0 hts wc_m_memberRing_more_m_shortest_160 rfl rfl rfl (by decide +kernel) ⟨Nat.le_of_ble_eq_true rfl, Nat.le_of_ble_eq_true rfl⟩) ⟨fun a9 U g mk q => by obtain ⟨q0, q1, qP, qK, qD⟩ := q; exact ⟨q0, q1, qP, va_K.moved (u := U) (U := U.calling g mk a9) (Vm.Alike.refl U.vm) qK, qD⟩, va_recv hK hP (ci := 10) (q0 := 0) rfl rfl, fun U hU hW => ⟨rfl, by rw [hU], by rw [hU]; exact hP, va_K.moved hW.alike hK, hD.weaken (fun _ _ _ _ => trivial)⟩⟩ rfl rfl hl.1 rfl (lv_room (Nat.le_of_ble_eq_true rfl)) dX9_memberRing_101 ⟨Nat.le_of_ble_eq_true rfl, Nat.le_of_ble_eq_true rfl⟩) hS (fun q _ h => hFc q h) hFc (fun r8 u t H1 locs ht hvm hw hB hz1 hk1 hS => ?_)
        obtain ⟨F9, V10⟩ := u
        replace hP := hB.1
        rw [ht] at hP
        replace hD : va_D A (mW h a k F9 V10) := hB.2.weaken (fun _ q _ h9 => hFc q.1 h9)
        clear hB
        generalize H1 = H at hP hS ⊢
        replace hP : va_P (dC, dI) vwCl (mW h a k F9 V10) H := hP
        obtain ⟨hwI, hwU, hwV, hw⟩ := hw
        replace hU : ∀ j : Nat, j ∉ ([31, 32] : List Nat) → F9 j = F j := mw_tr (by decide) hwU hU
        replace hV : ∀ j : Nat, j ∉ ([] : List Nat) → V10 j = V j := mw_tr (by decide) hwV hV
        replace hI : StM n (b + 0) F V F9 V10 := hI.trans hwI
        replace hI : StM n (b) F V F9 V10 := hI
        rw [hQ]
        exact W.iret (v := r8) hx hb hr (fun t ht hW => ⟨⟨r8, (F9, V10), rfl, ⟨hI.mono (by omega), hU, hV, trivial⟩, by rw [ht]; exact hP, hD⟩, hS.F ht⟩) hS.2.2 dX9_memberRing_104
      · replace c7 : ¬ (n ≤ i1) := fun q9 => c7 ((nI_leI (a := n) (b := i1) (by omega) (by omega)).mpr q9)
        refine lv_iconst (v := 0) hx hb dX9_memberRing_10 (by decide) ?_
        refine lv_istore_n (lv' := [(3, .int 0), (2, .int (nI i1)), (0, .ref h), (1, .ref (a 28))]) hx hb dX9_memberRing_11 rfl hl (by decide) rfl (fun ls hl => ?_)
        have lp14 : ∀ (fu12 i11 : Nat)  (F15 : Nat → Nat → Int32) (V16 : Nat → Int32) (H : Heap) (locs : List Loc) (ls : Array Slot), n < i11 + fu12 → i11 ≤ n → StM n (b) F V F15 V16 → (∀ j : Nat, j ∉ ([31, 32] : List Nat) → F15 j = F j) → (∀ j : Nat, j ∉ ([] : List Nat) → V16 j = V j) → va_P (dC, dI) vwCl (mW h a k F15 V16) H → va_D A (mW h a k F15 V16) → va_S A s.heap H locs → lv_has ls 4 [(3, .int (nI i11)), (2, .int (nI i1)), (0, .ref h), (1, .ref (a 28))] → W p l e (headSpec wq_m_memberRing_more rm_m_memberRing_more).room s m ([.ref h, .ref (a 28)] : List Value).toArray below meth c H locs 0 0 Q0 (F0 m 12 ls []) := by
          intro fu12
          induction fu12 with
          | zero =>
            intro i11  F15 V16 H locs ls hf hi
            exact absurd hf (by omega)
          | succ fu12 ih13 =>
            intro i11  F15 V16 H locs ls hfi11 hii11 hI hU hV hP hD hS hl
            refine lv_iload_n hx hb dX9_memberRing_12 rfl (lv_at hl 0 rfl) ?_
            refine lv_aload_n hx hb dX9_memberRing_13 rfl (lv_at hl 2 rfl) ?_
            refine va_get (D := (dC, dI)) (ci := 10) (v := .int (V16 21)) (C := RX9) (T := TX9) (N := 46) hx hb hts in_m_memberRing_more_X9 hown hK hP 0 rfl rfl 21 (by decide) (hts (.fieldLink RX9 126 "ServiceTreeModel" "services" "I") (by decide +kernel)) (fun _ h9 => h9) rfl dX9_memberRing_14 ?_
            refine p1_topr (v := .int (nI n)) (congrArg Value.int hI.1.2.1) ?_
            refine lv_icmp_ge (tgt := 94) hx hb dX9_memberRing_17 (by decide) (fun c17 => ?_) (fun c17 => ?_)
            · replace c17 : n ≤ i11 := (nI_leI (a := n) (b := i11) (by omega) (by omega)).mp c17
              refine lv_iinc (v := nI (i1 + 1)) (lv' := [(2, .int (nI (i1 + 1))), (3, .int (nI i11)), (0, .ref h), (1, .ref (a 28))]) hx hb dX9_memberRing_94 hl (k := 1) rfl (nI_add i1 1) (by decide) rfl (fun ls hl => ?_)
              refine lv_goto (tgt := 2) hx hb dX9_memberRing_97 (by decide) ?_
              exact ih3 (i1 + 1)  F15 V16 _ _ _ (by omega) (by omega) (hI.mono (by omega)) hU hV  hP hD hS (lv_sub hl [0, 2, 3] rfl)
            · replace c17 : ¬ (n ≤ i11) := fun q9 => c17 ((nI_leI (a := n) (b := i11) (by omega) (by omega)).mpr q9)
              refine lv_aload_n hx hb dX9_memberRing_20 rfl (lv_at hl 2 rfl) ?_
              refine va_get (D := (dC, dI)) (ci := 10) (v := .ref (a 31)) (C := RX9) (T := TX9) (N := 46) hx hb hts in_m_memberRing_more_X9 hown hK hP 0 rfl rfl 31 (by decide) (hts (.fieldLink RX9 89 "ServiceTreeModel" "edge" "[Z") (by decide +kernel)) (fun _ h9 => h9) rfl dX9_memberRing_21 ?_
              refine lv_iload_n hx hb dX9_memberRing_24 rfl (lv_at hl 1 rfl) ?_
              refine lv_bipush (v := 40) hx hb dX9_memberRing_25 (by decide) ?_
              refine lv_imul hx hb dX9_memberRing_27 ?_
              refine p1_topr (v := .int (nI (i1 * 40))) (congrArg Value.int (pk_mul i1 40)) ?_
              refine lv_iload_n hx hb dX9_memberRing_28 rfl (lv_at hl 0 rfl) ?_
              refine lv_iadd hx hb dX9_memberRing_29 ?_
              refine p1_topr (v := .int (nI ((i1 * 40) + i11))) (congrArg Value.int (nI_add (i1 * 40) i11)) ?_
              refine lv_aload_n hx hb dX9_memberRing_30 rfl (lv_at hl 3 rfl) ?_
              refine lv_iload_n hx hb dX9_memberRing_31 rfl (lv_at hl 1 rfl) ?_
              refine va_zald (n := 40) (f := F15 28) hx hb hK hP 24 23 rfl rfl (vp_in_nI (n := i1) (by omega) (by decide)) dX9_memberRing_32 ?_
              refine lv_topi (fun x18 ex18 => ?_)
              refine lv_if_eq (tgt := 86) hx hb dX9_memberRing_33 (by decide) (fun c19 => ?_) (fun c19 => ?_)
              · refine lv_iconst (v := 0) hx hb dX9_memberRing_86 (by decide) ?_
                refine va_zast (n := 1600) (f := F15 31) hx hb hK hP hD hS 27 26 rfl rfl (vp_in_nI (n := (i1 * 40) + i11) (by omega) (by decide)) dX9_memberRing_87 (fun H locs hP hD hS => ?_)
                rw [mW_set_31] at hP hD
                obtain ⟨F20, eF20⟩ : ∃ f9 : Nat → Nat → Int32, f9 = va_up F15 31 (upd (F15 31) (nI ((i1 * 40) + i11)).toNatClampNeg (vp_nar .boolean 0)) := ⟨_, rfl⟩
                rw [← eF20] at hP hD
                replace hI : StM n (b) F V F20 V16 := ⟨by rw [eF20]; exact hI.1.setF (by decide), trivial⟩
                replace hU : ∀ j : Nat, j ∉ ([31, 32] : List Nat) → F20 j = F j := by rw [eF20]; exact mw_up (by decide) hU
                refine lv_iinc (v := nI (i11 + 1)) (lv' := [(3, .int (nI (i11 + 1))), (2, .int (nI i1)), (0, .ref h), (1, .ref (a 28))]) hx hb dX9_memberRing_88 hl (k := 0) rfl (nI_add i11 1) (by decide) rfl (fun ls hl => ?_)
                refine lv_goto (tgt := 12) hx hb dX9_memberRing_91 (by decide) ?_
                exact ih13 (i11 + 1)  F20 V16 _ _ _ (by omega) (by omega) (hI.mono (by omega)) hU hV  hP hD hS (lv_sub hl [0, 1, 2, 3] rfl)
              · refine lv_aload_n hx hb dX9_memberRing_36 rfl (lv_at hl 3 rfl) ?_
                refine lv_iload_n hx hb dX9_memberRing_37 rfl (lv_at hl 0 rfl) ?_
                refine va_zald (n := 40) (f := F15 28) hx hb hK hP 24 23 rfl rfl (vp_in_nI (n := i11) (by omega) (by decide)) dX9_memberRing_38 ?_
                refine lv_topi (fun x21 ex21 => ?_)
                refine lv_if_eq (tgt := 86) hx hb dX9_memberRing_39 (by decide) (fun c22 => ?_) (fun c22 => ?_)
                · refine lv_iconst (v := 0) hx hb dX9_memberRing_86 (by decide) ?_
                  refine va_zast (n := 1600) (f := F15 31) hx hb hK hP hD hS 27 26 rfl rfl (vp_in_nI (n := (i1 * 40) + i11) (by omega) (by decide)) dX9_memberRing_87 (fun H locs hP hD hS => ?_)
                  rw [mW_set_31] at hP hD
                  obtain ⟨F23, eF23⟩ : ∃ f9 : Nat → Nat → Int32, f9 = va_up F15 31 (upd (F15 31) (nI ((i1 * 40) + i11)).toNatClampNeg (vp_nar .boolean 0)) := ⟨_, rfl⟩
                  rw [← eF23] at hP hD
                  replace hI : StM n (b) F V F23 V16 := ⟨by rw [eF23]; exact hI.1.setF (by decide), trivial⟩
                  replace hU : ∀ j : Nat, j ∉ ([31, 32] : List Nat) → F23 j = F j := by rw [eF23]; exact mw_up (by decide) hU
                  refine lv_iinc (v := nI (i11 + 1)) (lv' := [(3, .int (nI (i11 + 1))), (2, .int (nI i1)), (0, .ref h), (1, .ref (a 28))]) hx hb dX9_memberRing_88 hl (k := 0) rfl (nI_add i11 1) (by decide) rfl (fun ls hl => ?_)
                  refine lv_goto (tgt := 12) hx hb dX9_memberRing_91 (by decide) ?_
                  exact ih13 (i11 + 1)  F23 V16 _ _ _ (by omega) (by omega) (hI.mono (by omega)) hU hV  hP hD hS (lv_sub hl [0, 1, 2, 3] rfl)
                · refine lv_aload_n hx hb dX9_memberRing_42 rfl (lv_at hl 2 rfl) ?_
                  refine va_get (D := (dC, dI)) (ci := 10) (v := .ref (a 7)) (C := RX9) (T := TX9) (N := 46) hx hb hts in_m_memberRing_more_X9 hown hK hP 0 rfl rfl 7 (by decide) (hts (.fieldLink RX9 31 "ServiceTreeModel" "state" "[I") (by decide +kernel)) (fun _ h9 => h9) rfl dX9_memberRing_43 ?_
                  refine lv_iload_n hx hb dX9_memberRing_46 rfl (lv_at hl 1 rfl) ?_
                  refine va_iald (n := 40) (f := F15 7) hx hb hK hP 8 7 rfl rfl (vp_in_nI (n := i1) (by omega) (by decide)) dX9_memberRing_47 ?_
                  refine lv_topi (fun x24 ex24 => ?_)
                  refine lv_iconst (v := 2) hx hb dX9_memberRing_48 (by decide) ?_
                  refine lv_icmp_eq (tgt := 86) hx hb dX9_memberRing_49 (by decide) (fun c25 => ?_) (fun c25 => ?_)
                  · refine lv_iconst (v := 0) hx hb dX9_memberRing_86 (by decide) ?_
                    refine va_zast (n := 1600) (f := F15 31) hx hb hK hP hD hS 27 26 rfl rfl (vp_in_nI (n := (i1 * 40) + i11) (by omega) (by decide)) dX9_memberRing_87 (fun H locs hP hD hS => ?_)
                    rw [mW_set_31] at hP hD
                    obtain ⟨F26, eF26⟩ : ∃ f9 : Nat → Nat → Int32, f9 = va_up F15 31 (upd (F15 31) (nI ((i1 * 40) + i11)).toNatClampNeg (vp_nar .boolean 0)) := ⟨_, rfl⟩
                    rw [← eF26] at hP hD
                    replace hI : StM n (b) F V F26 V16 := ⟨by rw [eF26]; exact hI.1.setF (by decide), trivial⟩
                    replace hU : ∀ j : Nat, j ∉ ([31, 32] : List Nat) → F26 j = F j := by rw [eF26]; exact mw_up (by decide) hU
                    refine lv_iinc (v := nI (i11 + 1)) (lv' := [(3, .int (nI (i11 + 1))), (2, .int (nI i1)), (0, .ref h), (1, .ref (a 28))]) hx hb dX9_memberRing_88 hl (k := 0) rfl (nI_add i11 1) (by decide) rfl (fun ls hl => ?_)
                    refine lv_goto (tgt := 12) hx hb dX9_memberRing_91 (by decide) ?_
                    exact ih13 (i11 + 1)  F26 V16 _ _ _ (by omega) (by omega) (hI.mono (by omega)) hU hV  hP hD hS (lv_sub hl [0, 1, 2, 3] rfl)
                  · refine lv_aload_n hx hb dX9_memberRing_52 rfl (lv_at hl 2 rfl) ?_
                    refine va_get (D := (dC, dI)) (ci := 10) (v := .ref (a 7)) (C := RX9) (T := TX9) (N := 46) hx hb hts in_m_memberRing_more_X9 hown hK hP 0 rfl rfl 7 (by decide) (hts (.fieldLink RX9 31 "ServiceTreeModel" "state" "[I") (by decide +kernel)) (fun _ h9 => h9) rfl dX9_memberRing_53 ?_
                    refine lv_iload_n hx hb dX9_memberRing_56 rfl (lv_at hl 0 rfl) ?_
                    refine va_iald (n := 40) (f := F15 7) hx hb hK hP 8 7 rfl rfl (vp_in_nI (n := i11) (by omega) (by decide)) dX9_memberRing_57 ?_
                    refine lv_topi (fun x27 ex27 => ?_)
                    refine lv_iconst (v := 2) hx hb dX9_memberRing_58 (by decide) ?_
                    refine lv_icmp_eq (tgt := 86) hx hb dX9_memberRing_59 (by decide) (fun c28 => ?_) (fun c28 => ?_)
                    · refine lv_iconst (v := 0) hx hb dX9_memberRing_86 (by decide) ?_
                      refine va_zast (n := 1600) (f := F15 31) hx hb hK hP hD hS 27 26 rfl rfl (vp_in_nI (n := (i1 * 40) + i11) (by omega) (by decide)) dX9_memberRing_87 (fun H locs hP hD hS => ?_)
                      rw [mW_set_31] at hP hD
                      obtain ⟨F29, eF29⟩ : ∃ f9 : Nat → Nat → Int32, f9 = va_up F15 31 (upd (F15 31) (nI ((i1 * 40) + i11)).toNatClampNeg (vp_nar .boolean 0)) := ⟨_, rfl⟩
                      rw [← eF29] at hP hD
                      replace hI : StM n (b) F V F29 V16 := ⟨by rw [eF29]; exact hI.1.setF (by decide), trivial⟩
                      replace hU : ∀ j : Nat, j ∉ ([31, 32] : List Nat) → F29 j = F j := by rw [eF29]; exact mw_up (by decide) hU
                      refine lv_iinc (v := nI (i11 + 1)) (lv' := [(3, .int (nI (i11 + 1))), (2, .int (nI i1)), (0, .ref h), (1, .ref (a 28))]) hx hb dX9_memberRing_88 hl (k := 0) rfl (nI_add i11 1) (by decide) rfl (fun ls hl => ?_)
                      refine lv_goto (tgt := 12) hx hb dX9_memberRing_91 (by decide) ?_
                      exact ih13 (i11 + 1)  F29 V16 _ _ _ (by omega) (by omega) (hI.mono (by omega)) hU hV  hP hD hS (lv_sub hl [0, 1, 2, 3] rfl)
                    · refine lv_aload_n hx hb dX9_memberRing_62 rfl (lv_at hl 2 rfl) ?_
                      refine lv_iconst (v := 0) hx hb dX9_memberRing_63 (by decide) ?_
                      refine lv_iload_n hx hb dX9_memberRing_64 rfl (lv_at hl 1 rfl) ?_
                      refine lv_iload_n hx hb dX9_memberRing_65 rfl (lv_at hl 0 rfl) ?_
                      have hFc := mw_free hD hS hA
                      refine va_calli (va_runV (As := [.int 0, .int (nI i1), .int (nI i11)]) (rest := [.int (nI ((i1 * 40) + i11)), .ref (a 31)]) ⟨hx, hb, hml, hown, hts⟩ (c_m_has l dC dI h a k F15 V16 n (b) 0 i1 i11 H.size hI.1 (by omega) (by omega) (by omega) (by omega)) (cwV 3 hts wc_m_memberRing_more_m_has_150 rfl rfl rfl (by decide +kernel) ⟨Nat.le_of_ble_eq_true rfl, Nat.le_of_ble_eq_true rfl⟩) ⟨fun a9 U g mk q => by obtain ⟨q0, q1, qP, qK, qD⟩ := q; exact ⟨q0, q1, qP, va_K.moved (u := U) (U := U.calling g mk a9) (Vm.Alike.refl U.vm) qK, qD⟩, va_recv hK hP (ci := 10) (q0 := 0) rfl rfl, fun U hU hW => ⟨rfl, by rw [hU], by rw [hU]; exact hP, va_K.moved hW.alike hK, hD.weaken (fun _ _ _ _ => trivial)⟩⟩ rfl rfl hl.1 rfl (lv_room (Nat.le_of_ble_eq_true rfl)) dX9_memberRing_66 ⟨Nat.le_of_ble_eq_true rfl, Nat.le_of_ble_eq_true rfl⟩) hS (fun q _ h => hFc q h) hFc (fun r30 u t H1 locs ht hvm hw hB hz1 hk1 hS => ?_)
                      obtain ⟨F31, V32⟩ := u
                      replace hP := hB.1
                      rw [ht] at hP
                      replace hD : va_D A (mW h a k F31 V32) := hB.2.weaken (fun _ q _ h9 => hFc q.1 h9)
                      clear hB
                      generalize H1 = H at hP hS ⊢
                      replace hP : va_P (dC, dI) vwCl (mW h a k F31 V32) H := hP
                      obtain ⟨hwF, hwV, hw⟩ : F31 = F15 ∧ V32 = V16 ∧ _ := hw
                      rw [hwF, hwV] at hP hD
                      have br30 := hw
                      refine lv_if_ne (tgt := 82) hx hb dX9_memberRing_69 (by decide) (fun c33 => ?_) (fun c33 => ?_)
                      · refine lv_iconst (v := 1) hx hb dX9_memberRing_82 (by decide) ?_
                        refine lv_goto (tgt := 87) hx hb dX9_memberRing_83 (by decide) ?_
                        refine va_zast (n := 1600) (f := F15 31) hx hb hK hP hD hS 27 26 rfl rfl (vp_in_nI (n := (i1 * 40) + i11) (by omega) (by decide)) dX9_memberRing_87 (fun H locs hP hD hS => ?_)
                        rw [mW_set_31] at hP hD
                        obtain ⟨F34, eF34⟩ : ∃ f9 : Nat → Nat → Int32, f9 = va_up F15 31 (upd (F15 31) (nI ((i1 * 40) + i11)).toNatClampNeg (vp_nar .boolean 1)) := ⟨_, rfl⟩
                        rw [← eF34] at hP hD
                        replace hI : StM n (b) F V F34 V16 := ⟨by rw [eF34]; exact hI.1.setF (by decide), trivial⟩
                        replace hU : ∀ j : Nat, j ∉ ([31, 32] : List Nat) → F34 j = F j := by rw [eF34]; exact mw_up (by decide) hU
                        refine lv_iinc (v := nI (i11 + 1)) (lv' := [(3, .int (nI (i11 + 1))), (2, .int (nI i1)), (0, .ref h), (1, .ref (a 28))]) hx hb dX9_memberRing_88 hl (k := 0) rfl (nI_add i11 1) (by decide) rfl (fun ls hl => ?_)
                        refine lv_goto (tgt := 12) hx hb dX9_memberRing_91 (by decide) ?_
                        exact ih13 (i11 + 1)  F34 V16 _ _ _ (by omega) (by omega) (hI.mono (by omega)) hU hV  hP hD hS (lv_sub hl [0, 1, 2, 3] rfl)
                      · refine lv_aload_n hx hb dX9_memberRing_72 rfl (lv_at hl 2 rfl) ?_
                        refine lv_iconst (v := 2) hx hb dX9_memberRing_73 (by decide) ?_
                        refine lv_iload_n hx hb dX9_memberRing_74 rfl (lv_at hl 1 rfl) ?_
                        refine lv_iload_n hx hb dX9_memberRing_75 rfl (lv_at hl 0 rfl) ?_
                        have hFc := mw_free hD hS hA
                        refine va_calli (va_runV (As := [.int 2, .int (nI i1), .int (nI i11)]) (rest := [.int (nI ((i1 * 40) + i11)), .ref (a 31)]) ⟨hx, hb, hml, hown, hts⟩ (c_m_has l dC dI h a k F15 V16 n (b) 2 i1 i11 H.size hI.1 (by omega) (by omega) (by omega) (by omega)) (cwV 3 hts wc_m_memberRing_more_m_has_150 rfl rfl rfl (by decide +kernel) ⟨Nat.le_of_ble_eq_true rfl, Nat.le_of_ble_eq_true rfl⟩) ⟨fun a9 U g mk q => by obtain ⟨q0, q1, qP, qK, qD⟩ := q; exact ⟨q0, q1, qP, va_K.moved (u := U) (U := U.calling g mk a9) (Vm.Alike.refl U.vm) qK, qD⟩, va_recv hK hP (ci := 10) (q0 := 0) rfl rfl, fun U hU hW => ⟨rfl, by rw [hU], by rw [hU]; exact hP, va_K.moved hW.alike hK, hD.weaken (fun _ _ _ _ => trivial)⟩⟩ rfl rfl hl.1 rfl (lv_room (Nat.le_of_ble_eq_true rfl)) dX9_memberRing_76 ⟨Nat.le_of_ble_eq_true rfl, Nat.le_of_ble_eq_true rfl⟩) hS (fun q _ h => hFc q h) hFc (fun r35 u t H1 locs ht hvm hw hB hz1 hk1 hS => ?_)
                        obtain ⟨F36, V37⟩ := u
                        replace hP := hB.1
                        rw [ht] at hP
                        replace hD : va_D A (mW h a k F36 V37) := hB.2.weaken (fun _ q _ h9 => hFc q.1 h9)
                        clear hB
                        generalize H1 = H at hP hS ⊢
                        replace hP : va_P (dC, dI) vwCl (mW h a k F36 V37) H := hP
                        obtain ⟨hwF, hwV, hw⟩ : F36 = F15 ∧ V37 = V16 ∧ _ := hw
                        rw [hwF, hwV] at hP hD
                        have br35 := hw
                        refine lv_if_eq (tgt := 86) hx hb dX9_memberRing_79 (by decide) (fun c38 => ?_) (fun c38 => ?_)
                        · refine lv_iconst (v := 0) hx hb dX9_memberRing_86 (by decide) ?_
                          refine va_zast (n := 1600) (f := F15 31) hx hb hK hP hD hS 27 26 rfl rfl (vp_in_nI (n := (i1 * 40) + i11) (by omega) (by decide)) dX9_memberRing_87 (fun H locs hP hD hS => ?_)
                          rw [mW_set_31] at hP hD
                          obtain ⟨F39, eF39⟩ : ∃ f9 : Nat → Nat → Int32, f9 = va_up F15 31 (upd (F15 31) (nI ((i1 * 40) + i11)).toNatClampNeg (vp_nar .boolean 0)) := ⟨_, rfl⟩
                          rw [← eF39] at hP hD
                          replace hI : StM n (b) F V F39 V16 := ⟨by rw [eF39]; exact hI.1.setF (by decide), trivial⟩
                          replace hU : ∀ j : Nat, j ∉ ([31, 32] : List Nat) → F39 j = F j := by rw [eF39]; exact mw_up (by decide) hU
                          refine lv_iinc (v := nI (i11 + 1)) (lv' := [(3, .int (nI (i11 + 1))), (2, .int (nI i1)), (0, .ref h), (1, .ref (a 28))]) hx hb dX9_memberRing_88 hl (k := 0) rfl (nI_add i11 1) (by decide) rfl (fun ls hl => ?_)
                          refine lv_goto (tgt := 12) hx hb dX9_memberRing_91 (by decide) ?_
                          exact ih13 (i11 + 1)  F39 V16 _ _ _ (by omega) (by omega) (hI.mono (by omega)) hU hV  hP hD hS (lv_sub hl [0, 1, 2, 3] rfl)
                        · refine lv_iconst (v := 1) hx hb dX9_memberRing_82 (by decide) ?_
                          refine lv_goto (tgt := 87) hx hb dX9_memberRing_83 (by decide) ?_
                          refine va_zast (n := 1600) (f := F15 31) hx hb hK hP hD hS 27 26 rfl rfl (vp_in_nI (n := (i1 * 40) + i11) (by omega) (by decide)) dX9_memberRing_87 (fun H locs hP hD hS => ?_)
                          rw [mW_set_31] at hP hD
                          obtain ⟨F40, eF40⟩ : ∃ f9 : Nat → Nat → Int32, f9 = va_up F15 31 (upd (F15 31) (nI ((i1 * 40) + i11)).toNatClampNeg (vp_nar .boolean 1)) := ⟨_, rfl⟩
                          rw [← eF40] at hP hD
                          replace hI : StM n (b) F V F40 V16 := ⟨by rw [eF40]; exact hI.1.setF (by decide), trivial⟩
                          replace hU : ∀ j : Nat, j ∉ ([31, 32] : List Nat) → F40 j = F j := by rw [eF40]; exact mw_up (by decide) hU
                          refine lv_iinc (v := nI (i11 + 1)) (lv' := [(3, .int (nI (i11 + 1))), (2, .int (nI i1)), (0, .ref h), (1, .ref (a 28))]) hx hb dX9_memberRing_88 hl (k := 0) rfl (nI_add i11 1) (by decide) rfl (fun ls hl => ?_)
                          refine lv_goto (tgt := 12) hx hb dX9_memberRing_91 (by decide) ?_
                          exact ih13 (i11 + 1)  F40 V16 _ _ _ (by omega) (by omega) (hI.mono (by omega)) hU hV  hP hD hS (lv_sub hl [0, 1, 2, 3] rfl)
        exact lp14 (n + 1) 0  F5 V6 _ _ _ (by omega) (by omega) (hI.mono (by omega)) hU hV  hP hD hS hl
  exact lp4 (n + 1) 0  F V _ _ _ (by omega) (by omega) (hI.mono (by omega)) hU hV  hP hD hS hl
def wq_m_jobRing : List Cond := [.code yX9_jobRing cX9_jobRing 4 (some .int), .fieldLink RX9 126 "ServiceTreeModel" "services" "I", .fieldLink RX9 89 "ServiceTreeModel" "edge" "[Z", .methodLink RX9 160 yX9_shortest, .instanceMethod yX9_shortest, .selects RX9 yX9_shortest yX9_shortest, .initialized RX9, .methodLink RX9 167 yX9_waitsAmong, .instanceMethod yX9_waitsAmong, .selects RX9 yX9_waitsAmong yX9_waitsAmong] ++ (wsX90 ++ (wq_m_shortest ++ (wq_m_waitsAmong_newJob)))
theorem in_m_jobRing_X9 : ∀ w ∈ wsX90, w ∈ wq_m_jobRing := fun _ h => List.mem_append_right _ (List.mem_append_left _ (h))
set_option maxRecDepth 20000 in
theorem wi_m_jobRing : ∀ w ∈ wq_m_jobRing, w ∈ lw_tbl := List.forall_mem_append.mpr ⟨(by decide +kernel), List.forall_mem_append.mpr ⟨inKX9, List.forall_mem_append.mpr ⟨wi_m_shortest, wi_m_waitsAmong_newJob⟩⟩⟩
set_option maxRecDepth 20000 in
theorem wg_m_jobRing : GoodIn wq_m_jobRing wq_m_jobRing := goodIn_sub (fun _ h => h) (by decide +kernel)
set_option maxRecDepth 20000 in
theorem wc_m_jobRing_m_shortest_160 : GoodIn wq_m_jobRing (wsV RX9 160 RX9 yX9_shortest wq_m_shortest) := goodIn_app (goodIn_of _ (by decide +kernel)) (fun w h => ⟨List.mem_append_right _ (List.mem_append_right _ (List.mem_append_left _ (h))), (wg_m_shortest w h).2⟩)
set_option maxRecDepth 20000 in
theorem wc_m_jobRing_m_waitsAmong_newJob_167 : GoodIn wq_m_jobRing (wsV RX9 167 RX9 yX9_waitsAmong wq_m_waitsAmong_newJob) := goodIn_app (goodIn_of _ (by decide +kernel)) (fun w h => ⟨List.mem_append_right _ (List.mem_append_right _ (List.mem_append_right _ (h))), (wg_m_waitsAmong_newJob w h).2⟩)
def rm_m_jobRing : Room := { frames := 2, cells := 0, slots := 0, locals := 46 }
set_option maxHeartbeats 4000000 in
set_option maxRecDepth 100000 in
theorem c_m_jobRing (l : Launch) (dC : Nat → ClassId) (dI : Nat → Nat → Nat) (h : Nat) (a : Nat → Nat) (k : Nat → ClassId) (F : Nat → Nat → Int32) (V : Nat → Int32) (n b : Nat)  (sz : Nat) (hI0 : InvM n b F V) (hb0 : b + 0 < 2147483648)  : Met l yX9_jobRing wq_m_jobRing rm_m_jobRing (va_Pc [.ref h, .ref (a 30)] (fun U => U.heap.size = sz ∧ va_P (dC, dI) vwCl (mW h a k F V) U.heap ∧ va_K (dC, dI) vwCl (mT k) U ∧ va_D (fun _ => True) (mW h a k F V))) (va_Qi (fun (r : Int32) (u : (Nat → Nat → Int32) × (Nat → Int32)) => StM n (b + 0) F V u.1 u.2 ∧ (∀ j : Nat, j ∉ ([31, 32] : List Nat) → u.1 j = F j) ∧ (∀ j : Nat, j ∉ ([] : List Nat) → u.2 j = V j) ∧ (True)) (fun (u : (Nat → Nat → Int32) × (Nat → Int32)) (t : State) => va_P (dC, dI) vwCl (mW h a k u.1 u.2) t.heap ∧ va_D (va_A (mW h a k F V) sz) (mW h a k u.1 u.2)) (va_A (mW h a k F V) sz)) 0 0 (va_A (mW h a k F V) sz) := by
  have hn : n ≤ 40 := hI0.1
  have hI : StM n b F V F V := StM.rf hI0
  have hU : ∀ j : Nat, j ∉ ([31, 32] : List Nat) → F j = F j := fun _ _ => rfl
  have hV : ∀ j : Nat, j ∉ ([] : List Nat) → V j = V j := fun _ _ => rfl
  refine Met.ofW (cc := cX9_jobRing) (maxL := 4) (ret := (some .int)) (by decide) rfl ?_
  intro p e s m args below meth c s₁ B hml hv
  obtain ⟨rfl, hsz, hP, hK, hD0⟩ := hv
  have hx := B.exec
  have hb := B.bytes
  have hr := B.returns
  have hts := atoms_spec (ws := wq_m_jobRing) B.pre
  have hown : s.vm.findClass RX9 = some m.cls := findClass_of_methodNamed B.named
  have hlocks := B.notSynchronized
  subst hsz
  have hD := hD0.self (sz := s.heap.size)
  generalize hAe : va_A (mW h a k F V) s.heap.size = A at hD ⊢
  have hA : ∀ q : Nat, s.heap.size ≤ q → A q := fun q h => by rw [← hAe]; exact Or.inr h
  have hS : va_S A s.heap s.heap [] := va_S.rf
  have hl := lv_entry ([.ref h, .ref (a 30)]) (n := 4) (Nat.le_of_ble_eq_true rfl)
  rw [lg_entry_eq]
  generalize (lg_sl ([.ref h, .ref (a 30)]) ++ List.replicate (4 - (lg_sl ([.ref h, .ref (a 30)])).length) Slot.unset).toArray = ls at hl ⊢
  have hl : lv_has ls 4 [(0, .ref h), (1, .ref (a 30))] := hl
  refine mw_Q (fun Q0 hQ => ?_)
  refine lv_iconst (v := 0) hx hb dX9_jobRing_0 (by decide) ?_
  refine lv_istore_n (lv' := [(2, .int 0), (0, .ref h), (1, .ref (a 30))]) hx hb dX9_jobRing_1 rfl hl (by decide) rfl (fun ls hl => ?_)
  have lp4 : ∀ (fu2 i1 : Nat)  (F5 : Nat → Nat → Int32) (V6 : Nat → Int32) (H : Heap) (locs : List Loc) (ls : Array Slot), n < i1 + fu2 → i1 ≤ n → StM n (b) F V F5 V6 → (∀ j : Nat, j ∉ ([31, 32] : List Nat) → F5 j = F j) → (∀ j : Nat, j ∉ ([] : List Nat) → V6 j = V j) → va_P (dC, dI) vwCl (mW h a k F5 V6) H → va_D A (mW h a k F5 V6) → va_S A s.heap H locs → lv_has ls 4 [(2, .int (nI i1)), (0, .ref h), (1, .ref (a 30))] → W p l e (headSpec wq_m_jobRing rm_m_jobRing).room s m ([.ref h, .ref (a 30)] : List Value).toArray below meth c H locs 0 0 Q0 (F0 m 2 ls []) := by
    intro fu2
    induction fu2 with
    | zero =>
      intro i1  F5 V6 H locs ls hf hi
      exact absurd hf (by omega)
    | succ fu2 ih3 =>
      intro i1  F5 V6 H locs ls hfi1 hii1 hI hU hV hP hD hS hl
      refine lv_iload_n hx hb dX9_jobRing_2 rfl (lv_at hl 0 rfl) ?_
      refine lv_aload_n hx hb dX9_jobRing_3 rfl (lv_at hl 1 rfl) ?_
      refine va_get (D := (dC, dI)) (ci := 10) (v := .int (V6 21)) (C := RX9) (T := TX9) (N := 46) hx hb hts in_m_jobRing_X9 hown hK hP 0 rfl rfl 21 (by decide) (hts (.fieldLink RX9 126 "ServiceTreeModel" "services" "I") (by decide +kernel)) (fun _ h9 => h9) rfl dX9_jobRing_4 ?_
      refine p1_topr (v := .int (nI n)) (congrArg Value.int hI.1.2.1) ?_
      refine lv_icmp_ge (tgt := 50) hx hb dX9_jobRing_7 (by decide) (fun c7 => ?_) (fun c7 => ?_)
      · replace c7 : n ≤ i1 := (nI_leI (a := n) (b := i1) (by omega) (by omega)).mp c7
        refine lv_aload_n hx hb dX9_jobRing_50 rfl (lv_at hl 1 rfl) ?_
        have hFc := mw_free hD hS hA
        refine va_calli (va_runV (As := []) (rest := []) ⟨hx, hb, hml, hown, hts⟩ (c_m_shortest l dC dI h a k F5 V6 n (b)  H.size hI.1 (by omega) ) (cwV 0 hts wc_m_jobRing_m_shortest_160 rfl rfl rfl (by decide +kernel) ⟨Nat.le_of_ble_eq_true rfl, Nat.le_of_ble_eq_true rfl⟩) ⟨fun a9 U g mk q => by obtain ⟨q0, q1, qP, qK, qD⟩ := q; exact ⟨q0, q1, qP, va_K.moved (u := U) (U := U.calling g mk a9) (Vm.Alike.refl U.vm) qK, qD⟩, va_recv hK hP (ci := 10) (q0 := 0) rfl rfl, fun U hU hW => ⟨rfl, by rw [hU], by rw [hU]; exact hP, va_K.moved hW.alike hK, hD.weaken (fun _ _ _ _ => trivial)⟩⟩ rfl rfl hl.1 rfl (lv_room (Nat.le_of_ble_eq_true rfl)) dX9_jobRing_51 ⟨Nat.le_of_ble_eq_true rfl, Nat.le_of_ble_eq_true rfl⟩) hS (fun q _ h => hFc q h) hFc (fun r8 u t H1 locs ht hvm hw hB hz1 hk1 hS => ?_)
        obtain ⟨F9, V10⟩ := u
        replace hP := hB.1
        rw [ht] at hP
        replace hD : va_D A (mW h a k F9 V10) := hB.2.weaken (fun _ q _ h9 => hFc q.1 h9)
        clear hB
        generalize H1 = H at hP hS ⊢
        replace hP : va_P (dC, dI) vwCl (mW h a k F9 V10) H := hP
        obtain ⟨hwI, hwU, hwV, hw⟩ := hw
        replace hU : ∀ j : Nat, j ∉ ([31, 32] : List Nat) → F9 j = F j := mw_tr (by decide) hwU hU
        replace hV : ∀ j : Nat, j ∉ ([] : List Nat) → V10 j = V j := mw_tr (by decide) hwV hV
        replace hI : StM n (b + 0) F V F9 V10 := hI.trans hwI
        replace hI : StM n (b) F V F9 V10 := hI
        rw [hQ]
        exact W.iret (v := r8) hx hb hr (fun t ht hW => ⟨⟨r8, (F9, V10), rfl, ⟨hI.mono (by omega), hU, hV, trivial⟩, by rw [ht]; exact hP, hD⟩, hS.F ht⟩) hS.2.2 dX9_jobRing_54
      · replace c7 : ¬ (n ≤ i1) := fun q9 => c7 ((nI_leI (a := n) (b := i1) (by omega) (by omega)).mpr q9)
        refine lv_iconst (v := 0) hx hb dX9_jobRing_10 (by decide) ?_
        refine lv_istore_n (lv' := [(3, .int 0), (2, .int (nI i1)), (0, .ref h), (1, .ref (a 30))]) hx hb dX9_jobRing_11 rfl hl (by decide) rfl (fun ls hl => ?_)
        have lp14 : ∀ (fu12 i11 : Nat)  (F15 : Nat → Nat → Int32) (V16 : Nat → Int32) (H : Heap) (locs : List Loc) (ls : Array Slot), n < i11 + fu12 → i11 ≤ n → StM n (b) F V F15 V16 → (∀ j : Nat, j ∉ ([31, 32] : List Nat) → F15 j = F j) → (∀ j : Nat, j ∉ ([] : List Nat) → V16 j = V j) → va_P (dC, dI) vwCl (mW h a k F15 V16) H → va_D A (mW h a k F15 V16) → va_S A s.heap H locs → lv_has ls 4 [(3, .int (nI i11)), (2, .int (nI i1)), (0, .ref h), (1, .ref (a 30))] → W p l e (headSpec wq_m_jobRing rm_m_jobRing).room s m ([.ref h, .ref (a 30)] : List Value).toArray below meth c H locs 0 0 Q0 (F0 m 12 ls []) := by
          intro fu12
          induction fu12 with
          | zero =>
            intro i11  F15 V16 H locs ls hf hi
            exact absurd hf (by omega)
          | succ fu12 ih13 =>
            intro i11  F15 V16 H locs ls hfi11 hii11 hI hU hV hP hD hS hl
            refine lv_iload_n hx hb dX9_jobRing_12 rfl (lv_at hl 0 rfl) ?_
            refine lv_aload_n hx hb dX9_jobRing_13 rfl (lv_at hl 2 rfl) ?_
            refine va_get (D := (dC, dI)) (ci := 10) (v := .int (V16 21)) (C := RX9) (T := TX9) (N := 46) hx hb hts in_m_jobRing_X9 hown hK hP 0 rfl rfl 21 (by decide) (hts (.fieldLink RX9 126 "ServiceTreeModel" "services" "I") (by decide +kernel)) (fun _ h9 => h9) rfl dX9_jobRing_14 ?_
            refine p1_topr (v := .int (nI n)) (congrArg Value.int hI.1.2.1) ?_
            refine lv_icmp_ge (tgt := 44) hx hb dX9_jobRing_17 (by decide) (fun c17 => ?_) (fun c17 => ?_)
            · replace c17 : n ≤ i11 := (nI_leI (a := n) (b := i11) (by omega) (by omega)).mp c17
              refine lv_iinc (v := nI (i1 + 1)) (lv' := [(2, .int (nI (i1 + 1))), (3, .int (nI i11)), (0, .ref h), (1, .ref (a 30))]) hx hb dX9_jobRing_44 hl (k := 1) rfl (nI_add i1 1) (by decide) rfl (fun ls hl => ?_)
              refine lv_goto (tgt := 2) hx hb dX9_jobRing_47 (by decide) ?_
              exact ih3 (i1 + 1)  F15 V16 _ _ _ (by omega) (by omega) (hI.mono (by omega)) hU hV  hP hD hS (lv_sub hl [0, 2, 3] rfl)
            · replace c17 : ¬ (n ≤ i11) := fun q9 => c17 ((nI_leI (a := n) (b := i11) (by omega) (by omega)).mpr q9)
              refine lv_aload_n hx hb dX9_jobRing_20 rfl (lv_at hl 2 rfl) ?_
              refine va_get (D := (dC, dI)) (ci := 10) (v := .ref (a 31)) (C := RX9) (T := TX9) (N := 46) hx hb hts in_m_jobRing_X9 hown hK hP 0 rfl rfl 31 (by decide) (hts (.fieldLink RX9 89 "ServiceTreeModel" "edge" "[Z") (by decide +kernel)) (fun _ h9 => h9) rfl dX9_jobRing_21 ?_
              refine lv_iload_n hx hb dX9_jobRing_24 rfl (lv_at hl 1 rfl) ?_
              refine lv_bipush (v := 40) hx hb dX9_jobRing_25 (by decide) ?_
              refine lv_imul hx hb dX9_jobRing_27 ?_
              refine p1_topr (v := .int (nI (i1 * 40))) (congrArg Value.int (pk_mul i1 40)) ?_
              refine lv_iload_n hx hb dX9_jobRing_28 rfl (lv_at hl 0 rfl) ?_
              refine lv_iadd hx hb dX9_jobRing_29 ?_
              refine p1_topr (v := .int (nI ((i1 * 40) + i11))) (congrArg Value.int (nI_add (i1 * 40) i11)) ?_
              refine lv_aload_n hx hb dX9_jobRing_30 rfl (lv_at hl 2 rfl) ?_
              refine lv_aload_n hx hb dX9_jobRing_31 rfl (lv_at hl 3 rfl) ?_
              refine lv_iload_n hx hb dX9_jobRing_32 rfl (lv_at hl 1 rfl) ?_
              refine lv_iload_n hx hb dX9_jobRing_33 rfl (lv_at hl 0 rfl) ?_
              have hFc := mw_free hD hS hA
              refine va_calli (va_runV (As := [.ref (a 30), .int (nI i1), .int (nI i11)]) (rest := [.int (nI ((i1 * 40) + i11)), .ref (a 31)]) ⟨hx, hb, hml, hown, hts⟩ (c_m_waitsAmong_newJob l dC dI h a k F15 V16 n (b) i1 i11 H.size hI.1 (by omega) (by omega) (by omega)) (cwV 3 hts wc_m_jobRing_m_waitsAmong_newJob_167 rfl rfl rfl (by decide +kernel) ⟨Nat.le_of_ble_eq_true rfl, Nat.le_of_ble_eq_true rfl⟩) ⟨fun a9 U g mk q => by obtain ⟨q0, q1, qP, qK, qD⟩ := q; exact ⟨q0, q1, qP, va_K.moved (u := U) (U := U.calling g mk a9) (Vm.Alike.refl U.vm) qK, qD⟩, va_recv hK hP (ci := 10) (q0 := 0) rfl rfl, fun U hU hW => ⟨rfl, by rw [hU], by rw [hU]; exact hP, va_K.moved hW.alike hK, hD.weaken (fun _ _ _ _ => trivial)⟩⟩ rfl rfl hl.1 rfl (lv_room (Nat.le_of_ble_eq_true rfl)) dX9_jobRing_34 ⟨Nat.le_of_ble_eq_true rfl, Nat.le_of_ble_eq_true rfl⟩) hS (fun q _ h => hFc q h) hFc (fun r18 u t H1 locs ht hvm hw hB hz1 hk1 hS => ?_)
              obtain ⟨F19, V20⟩ := u
              replace hP := hB.1
              rw [ht] at hP
              replace hD : va_D A (mW h a k F19 V20) := hB.2.weaken (fun _ q _ h9 => hFc q.1 h9)
              clear hB
              generalize H1 = H at hP hS ⊢
              replace hP : va_P (dC, dI) vwCl (mW h a k F19 V20) H := hP
              obtain ⟨hwF, hwV, hw⟩ : F19 = F15 ∧ V20 = V16 ∧ _ := hw
              rw [hwF, hwV] at hP hD
              have br18 := hw
              refine va_zast (n := 1600) (f := F15 31) hx hb hK hP hD hS 27 26 rfl rfl (vp_in_nI (n := (i1 * 40) + i11) (by omega) (by decide)) dX9_jobRing_37 (fun H locs hP hD hS => ?_)
              rw [mW_set_31] at hP hD
              obtain ⟨F21, eF21⟩ : ∃ f9 : Nat → Nat → Int32, f9 = va_up F15 31 (upd (F15 31) (nI ((i1 * 40) + i11)).toNatClampNeg (vp_nar .boolean r18)) := ⟨_, rfl⟩
              rw [← eF21] at hP hD
              replace hI : StM n (b) F V F21 V16 := ⟨by rw [eF21]; exact hI.1.setF (by decide), trivial⟩
              replace hU : ∀ j : Nat, j ∉ ([31, 32] : List Nat) → F21 j = F j := by rw [eF21]; exact mw_up (by decide) hU
              refine lv_iinc (v := nI (i11 + 1)) (lv' := [(3, .int (nI (i11 + 1))), (2, .int (nI i1)), (0, .ref h), (1, .ref (a 30))]) hx hb dX9_jobRing_38 hl (k := 0) rfl (nI_add i11 1) (by decide) rfl (fun ls hl => ?_)
              refine lv_goto (tgt := 12) hx hb dX9_jobRing_41 (by decide) ?_
              exact ih13 (i11 + 1)  F21 V16 _ _ _ (by omega) (by omega) (hI.mono (by omega)) hU hV  hP hD hS (lv_sub hl [0, 1, 2, 3] rfl)
        exact lp14 (n + 1) 0  F5 V6 _ _ _ (by omega) (by omega) (hI.mono (by omega)) hU hV  hP hD hS hl
  exact lp4 (n + 1) 0  F V _ _ _ (by omega) (by omega) (hI.mono (by omega)) hU hV  hP hD hS hl
def wq_m_endJobs : List Cond := [.code yX9_endJobs cX9_endJobs 2 none, .fieldLink RX9 126 "ServiceTreeModel" "services" "I", .fieldLink RX9 71 "ServiceTreeModel" "job" "[I", .fieldLink RX9 74 "ServiceTreeModel" "hasBegun" "[Z", .fieldLink RX9 31 "ServiceTreeModel" "state" "[I"] ++ (wsX90)
theorem in_m_endJobs_X9 : ∀ w ∈ wsX90, w ∈ wq_m_endJobs := fun _ h => List.mem_append_right _ (h)
set_option maxRecDepth 20000 in
theorem wi_m_endJobs : ∀ w ∈ wq_m_endJobs, w ∈ lw_tbl := List.forall_mem_append.mpr ⟨(by decide +kernel), inKX9⟩
set_option maxRecDepth 20000 in
theorem wg_m_endJobs : GoodIn wq_m_endJobs wq_m_endJobs := goodIn_sub (fun _ h => h) (by decide +kernel)
def rm_m_endJobs : Room := { frames := 0, cells := 0, slots := 0, locals := 0 }
set_option maxHeartbeats 4000000 in
set_option maxRecDepth 100000 in
theorem c_m_endJobs (l : Launch) (dC : Nat → ClassId) (dI : Nat → Nat → Nat) (h : Nat) (a : Nat → Nat) (k : Nat → ClassId) (F : Nat → Nat → Int32) (V : Nat → Int32) (n b : Nat)  (sz : Nat) (hI0 : InvM n b F V) (hb0 : b + 0 < 2147483648)  : Met l yX9_endJobs wq_m_endJobs rm_m_endJobs (va_Pc [.ref h] (fun U => U.heap.size = sz ∧ va_P (dC, dI) vwCl (mW h a k F V) U.heap ∧ va_K (dC, dI) vwCl (mT k) U ∧ va_D (fun _ => True) (mW h a k F V))) (va_Qv (fun (u : (Nat → Nat → Int32) × (Nat → Int32)) => StM n (b + 0) F V u.1 u.2 ∧ (∀ j : Nat, j ∉ ([25] : List Nat) → u.1 j = F j) ∧ (∀ j : Nat, j ∉ ([] : List Nat) → u.2 j = V j) ∧ (True)) (fun (u : (Nat → Nat → Int32) × (Nat → Int32)) (t : State) => va_P (dC, dI) vwCl (mW h a k u.1 u.2) t.heap ∧ va_D (va_A (mW h a k F V) sz) (mW h a k u.1 u.2)) (va_A (mW h a k F V) sz)) 0 0 (va_A (mW h a k F V) sz) := by
  have hn : n ≤ 40 := hI0.1
  have hI : StM n b F V F V := StM.rf hI0
  have hU : ∀ j : Nat, j ∉ ([25] : List Nat) → F j = F j := fun _ _ => rfl
  have hV : ∀ j : Nat, j ∉ ([] : List Nat) → V j = V j := fun _ _ => rfl
  refine Met.ofW (cc := cX9_endJobs) (maxL := 2) (ret := none) (by decide) rfl ?_
  intro p e s m args below meth c s₁ B hml hv
  obtain ⟨rfl, hsz, hP, hK, hD0⟩ := hv
  have hx := B.exec
  have hb := B.bytes
  have hr := B.returns
  have hts := atoms_spec (ws := wq_m_endJobs) B.pre
  have hown : s.vm.findClass RX9 = some m.cls := findClass_of_methodNamed B.named
  have hlocks := B.notSynchronized
  subst hsz
  have hD := hD0.self (sz := s.heap.size)
  generalize hAe : va_A (mW h a k F V) s.heap.size = A at hD ⊢
  have hA : ∀ q : Nat, s.heap.size ≤ q → A q := fun q h => by rw [← hAe]; exact Or.inr h
  have hS : va_S A s.heap s.heap [] := va_S.rf
  have hl := lv_entry ([.ref h]) (n := 2) (Nat.le_of_ble_eq_true rfl)
  rw [lg_entry_eq]
  generalize (lg_sl ([.ref h]) ++ List.replicate (2 - (lg_sl ([.ref h])).length) Slot.unset).toArray = ls at hl ⊢
  have hl : lv_has ls 2 [(0, .ref h)] := hl
  refine mw_Q (fun Q0 hQ => ?_)
  refine lv_iconst (v := 0) hx hb dX9_endJobs_0 (by decide) ?_
  refine lv_istore_n (lv' := [(1, .int 0), (0, .ref h)]) hx hb dX9_endJobs_1 rfl hl (by decide) rfl (fun ls hl => ?_)
  have lp4 : ∀ (fu2 i1 : Nat)  (F5 : Nat → Nat → Int32) (V6 : Nat → Int32) (H : Heap) (locs : List Loc) (ls : Array Slot), n < i1 + fu2 → i1 ≤ n → StM n (b) F V F5 V6 → (∀ j : Nat, j ∉ ([25] : List Nat) → F5 j = F j) → (∀ j : Nat, j ∉ ([] : List Nat) → V6 j = V j) → va_P (dC, dI) vwCl (mW h a k F5 V6) H → va_D A (mW h a k F5 V6) → va_S A s.heap H locs → lv_has ls 2 [(1, .int (nI i1)), (0, .ref h)] → W p l e (headSpec wq_m_endJobs rm_m_endJobs).room s m ([.ref h] : List Value).toArray below meth c H locs 0 0 Q0 (F0 m 2 ls []) := by
    intro fu2
    induction fu2 with
    | zero =>
      intro i1  F5 V6 H locs ls hf hi
      exact absurd hf (by omega)
    | succ fu2 ih3 =>
      intro i1  F5 V6 H locs ls hfi1 hii1 hI hU hV hP hD hS hl
      refine lv_iload_n hx hb dX9_endJobs_2 rfl (lv_at hl 0 rfl) ?_
      refine lv_aload_n hx hb dX9_endJobs_3 rfl (lv_at hl 1 rfl) ?_
      refine va_get (D := (dC, dI)) (ci := 10) (v := .int (V6 21)) (C := RX9) (T := TX9) (N := 46) hx hb hts in_m_endJobs_X9 hown hK hP 0 rfl rfl 21 (by decide) (hts (.fieldLink RX9 126 "ServiceTreeModel" "services" "I") (by decide +kernel)) (fun _ h9 => h9) rfl dX9_endJobs_4 ?_
      refine p1_topr (v := .int (nI n)) (congrArg Value.int hI.1.2.1) ?_
      refine lv_icmp_ge (tgt := 73) hx hb dX9_endJobs_7 (by decide) (fun c7 => ?_) (fun c7 => ?_)
      · replace c7 : n ≤ i1 := (nI_leI (a := n) (b := i1) (by omega) (by omega)).mp c7
        rw [hQ]
        exact W.vret hx hb hr (fun t ht hW => ⟨⟨(F5, V6), rfl, ⟨hI.mono (by omega), hU, hV, trivial⟩, by rw [ht]; exact hP, hD⟩, hS.F ht⟩) hS.2.2 dX9_endJobs_73
      · replace c7 : ¬ (n ≤ i1) := fun q9 => c7 ((nI_leI (a := n) (b := i1) (by omega) (by omega)).mpr q9)
        refine lv_aload_n hx hb dX9_endJobs_10 rfl (lv_at hl 1 rfl) ?_
        refine va_get (D := (dC, dI)) (ci := 10) (v := .ref (a 25)) (C := RX9) (T := TX9) (N := 46) hx hb hts in_m_endJobs_X9 hown hK hP 0 rfl rfl 25 (by decide) (hts (.fieldLink RX9 71 "ServiceTreeModel" "job" "[I") (by decide +kernel)) (fun _ h9 => h9) rfl dX9_endJobs_11 ?_
        refine lv_iload_n hx hb dX9_endJobs_14 rfl (lv_at hl 0 rfl) ?_
        refine va_iald (n := 40) (f := F5 25) hx hb hK hP 21 20 rfl rfl (vp_in_nI (n := i1) (by omega) (by decide)) dX9_endJobs_15 ?_
        refine lv_topi (fun x8 ex8 => ?_)
        refine lv_if_eq (tgt := 67) hx hb dX9_endJobs_16 (by decide) (fun c9 => ?_) (fun c9 => ?_)
        · refine lv_iinc (v := nI (i1 + 1)) (lv' := [(1, .int (nI (i1 + 1))), (0, .ref h)]) hx hb dX9_endJobs_67 hl (k := 0) rfl (nI_add i1 1) (by decide) rfl (fun ls hl => ?_)
          refine lv_goto (tgt := 2) hx hb dX9_endJobs_70 (by decide) ?_
          exact ih3 (i1 + 1)  F5 V6 _ _ _ (by omega) (by omega) (hI.mono (by omega)) hU hV  hP hD hS (lv_sub hl [0, 1] rfl)
        · refine lv_aload_n hx hb dX9_endJobs_19 rfl (lv_at hl 1 rfl) ?_
          refine va_get (D := (dC, dI)) (ci := 10) (v := .ref (a 26)) (C := RX9) (T := TX9) (N := 46) hx hb hts in_m_endJobs_X9 hown hK hP 0 rfl rfl 26 (by decide) (hts (.fieldLink RX9 74 "ServiceTreeModel" "hasBegun" "[Z") (by decide +kernel)) (fun _ h9 => h9) rfl dX9_endJobs_20 ?_
          refine lv_iload_n hx hb dX9_endJobs_23 rfl (lv_at hl 0 rfl) ?_
          refine va_zald (n := 40) (f := F5 26) hx hb hK hP 22 21 rfl rfl (vp_in_nI (n := i1) (by omega) (by decide)) dX9_endJobs_24 ?_
          refine lv_topi (fun x10 ex10 => ?_)
          refine lv_if_eq (tgt := 67) hx hb dX9_endJobs_25 (by decide) (fun c11 => ?_) (fun c11 => ?_)
          · refine lv_iinc (v := nI (i1 + 1)) (lv' := [(1, .int (nI (i1 + 1))), (0, .ref h)]) hx hb dX9_endJobs_67 hl (k := 0) rfl (nI_add i1 1) (by decide) rfl (fun ls hl => ?_)
            refine lv_goto (tgt := 2) hx hb dX9_endJobs_70 (by decide) ?_
            exact ih3 (i1 + 1)  F5 V6 _ _ _ (by omega) (by omega) (hI.mono (by omega)) hU hV  hP hD hS (lv_sub hl [0, 1] rfl)
          · refine lv_aload_n hx hb dX9_endJobs_28 rfl (lv_at hl 1 rfl) ?_
            refine va_get (D := (dC, dI)) (ci := 10) (v := .ref (a 25)) (C := RX9) (T := TX9) (N := 46) hx hb hts in_m_endJobs_X9 hown hK hP 0 rfl rfl 25 (by decide) (hts (.fieldLink RX9 71 "ServiceTreeModel" "job" "[I") (by decide +kernel)) (fun _ h9 => h9) rfl dX9_endJobs_29 ?_
            refine lv_iload_n hx hb dX9_endJobs_32 rfl (lv_at hl 0 rfl) ?_
            refine va_iald (n := 40) (f := F5 25) hx hb hK hP 21 20 rfl rfl (vp_in_nI (n := i1) (by omega) (by decide)) dX9_endJobs_33 ?_
            refine p1_topr (v := .int x8) (congrArg Value.int ex8.symm) ?_
            refine lv_iconst (v := 1) hx hb dX9_endJobs_34 (by decide) ?_
            refine lv_icmp_ne (tgt := 51) hx hb dX9_endJobs_35 (by decide) (fun c13 => ?_) (fun c13 => ?_)
            · refine lv_aload_n hx hb dX9_endJobs_51 rfl (lv_at hl 1 rfl) ?_
              refine va_get (D := (dC, dI)) (ci := 10) (v := .ref (a 7)) (C := RX9) (T := TX9) (N := 46) hx hb hts in_m_endJobs_X9 hown hK hP 0 rfl rfl 7 (by decide) (hts (.fieldLink RX9 31 "ServiceTreeModel" "state" "[I") (by decide +kernel)) (fun _ h9 => h9) rfl dX9_endJobs_52 ?_
              refine lv_iload_n hx hb dX9_endJobs_55 rfl (lv_at hl 0 rfl) ?_
              refine va_iald (n := 40) (f := F5 7) hx hb hK hP 8 7 rfl rfl (vp_in_nI (n := i1) (by omega) (by decide)) dX9_endJobs_56 ?_
              refine lv_topi (fun x14 ex14 => ?_)
              refine lv_if_ne (tgt := 67) hx hb dX9_endJobs_57 (by decide) (fun c15 => ?_) (fun c15 => ?_)
              · refine lv_iinc (v := nI (i1 + 1)) (lv' := [(1, .int (nI (i1 + 1))), (0, .ref h)]) hx hb dX9_endJobs_67 hl (k := 0) rfl (nI_add i1 1) (by decide) rfl (fun ls hl => ?_)
                refine lv_goto (tgt := 2) hx hb dX9_endJobs_70 (by decide) ?_
                exact ih3 (i1 + 1)  F5 V6 _ _ _ (by omega) (by omega) (hI.mono (by omega)) hU hV  hP hD hS (lv_sub hl [0, 1] rfl)
              · refine lv_aload_n hx hb dX9_endJobs_60 rfl (lv_at hl 1 rfl) ?_
                refine va_get (D := (dC, dI)) (ci := 10) (v := .ref (a 25)) (C := RX9) (T := TX9) (N := 46) hx hb hts in_m_endJobs_X9 hown hK hP 0 rfl rfl 25 (by decide) (hts (.fieldLink RX9 71 "ServiceTreeModel" "job" "[I") (by decide +kernel)) (fun _ h9 => h9) rfl dX9_endJobs_61 ?_
                refine lv_iload_n hx hb dX9_endJobs_64 rfl (lv_at hl 0 rfl) ?_
                refine lv_iconst (v := 0) hx hb dX9_endJobs_65 (by decide) ?_
                refine va_iast (n := 40) (f := F5 25) hx hb hK hP hD hS 21 20 rfl rfl (vp_in_nI (n := i1) (by omega) (by decide)) dX9_endJobs_66 (fun H locs hP hD hS => ?_)
                rw [mW_set_25] at hP hD
                obtain ⟨F16, eF16⟩ : ∃ f9 : Nat → Nat → Int32, f9 = va_up F5 25 (upd (F5 25) (nI i1).toNatClampNeg 0) := ⟨_, rfl⟩
                rw [← eF16] at hP hD
                replace hI : StM n (b) F V F16 V6 := ⟨by rw [eF16]; exact hI.1.setF (by decide), trivial⟩
                replace hU : ∀ j : Nat, j ∉ ([25] : List Nat) → F16 j = F j := by rw [eF16]; exact mw_up (by decide) hU
                refine lv_iinc (v := nI (i1 + 1)) (lv' := [(1, .int (nI (i1 + 1))), (0, .ref h)]) hx hb dX9_endJobs_67 hl (k := 0) rfl (nI_add i1 1) (by decide) rfl (fun ls hl => ?_)
                refine lv_goto (tgt := 2) hx hb dX9_endJobs_70 (by decide) ?_
                exact ih3 (i1 + 1)  F16 V6 _ _ _ (by omega) (by omega) (hI.mono (by omega)) hU hV  hP hD hS (lv_sub hl [0, 1] rfl)
            · refine lv_aload_n hx hb dX9_endJobs_38 rfl (lv_at hl 1 rfl) ?_
              refine va_get (D := (dC, dI)) (ci := 10) (v := .ref (a 7)) (C := RX9) (T := TX9) (N := 46) hx hb hts in_m_endJobs_X9 hown hK hP 0 rfl rfl 7 (by decide) (hts (.fieldLink RX9 31 "ServiceTreeModel" "state" "[I") (by decide +kernel)) (fun _ h9 => h9) rfl dX9_endJobs_39 ?_
              refine lv_iload_n hx hb dX9_endJobs_42 rfl (lv_at hl 0 rfl) ?_
              refine va_iald (n := 40) (f := F5 7) hx hb hK hP 8 7 rfl rfl (vp_in_nI (n := i1) (by omega) (by decide)) dX9_endJobs_43 ?_
              refine lv_topi (fun x17 ex17 => ?_)
              refine lv_iconst (v := 1) hx hb dX9_endJobs_44 (by decide) ?_
              refine lv_icmp_eq (tgt := 67) hx hb dX9_endJobs_45 (by decide) (fun c18 => ?_) (fun c18 => ?_)
              · refine lv_iinc (v := nI (i1 + 1)) (lv' := [(1, .int (nI (i1 + 1))), (0, .ref h)]) hx hb dX9_endJobs_67 hl (k := 0) rfl (nI_add i1 1) (by decide) rfl (fun ls hl => ?_)
                refine lv_goto (tgt := 2) hx hb dX9_endJobs_70 (by decide) ?_
                exact ih3 (i1 + 1)  F5 V6 _ _ _ (by omega) (by omega) (hI.mono (by omega)) hU hV  hP hD hS (lv_sub hl [0, 1] rfl)
              · refine lv_goto (tgt := 60) hx hb dX9_endJobs_48 (by decide) ?_
                refine lv_aload_n hx hb dX9_endJobs_60 rfl (lv_at hl 1 rfl) ?_
                refine va_get (D := (dC, dI)) (ci := 10) (v := .ref (a 25)) (C := RX9) (T := TX9) (N := 46) hx hb hts in_m_endJobs_X9 hown hK hP 0 rfl rfl 25 (by decide) (hts (.fieldLink RX9 71 "ServiceTreeModel" "job" "[I") (by decide +kernel)) (fun _ h9 => h9) rfl dX9_endJobs_61 ?_
                refine lv_iload_n hx hb dX9_endJobs_64 rfl (lv_at hl 0 rfl) ?_
                refine lv_iconst (v := 0) hx hb dX9_endJobs_65 (by decide) ?_
                refine va_iast (n := 40) (f := F5 25) hx hb hK hP hD hS 21 20 rfl rfl (vp_in_nI (n := i1) (by omega) (by decide)) dX9_endJobs_66 (fun H locs hP hD hS => ?_)
                rw [mW_set_25] at hP hD
                obtain ⟨F19, eF19⟩ : ∃ f9 : Nat → Nat → Int32, f9 = va_up F5 25 (upd (F5 25) (nI i1).toNatClampNeg 0) := ⟨_, rfl⟩
                rw [← eF19] at hP hD
                replace hI : StM n (b) F V F19 V6 := ⟨by rw [eF19]; exact hI.1.setF (by decide), trivial⟩
                replace hU : ∀ j : Nat, j ∉ ([25] : List Nat) → F19 j = F j := by rw [eF19]; exact mw_up (by decide) hU
                refine lv_iinc (v := nI (i1 + 1)) (lv' := [(1, .int (nI (i1 + 1))), (0, .ref h)]) hx hb dX9_endJobs_67 hl (k := 0) rfl (nI_add i1 1) (by decide) rfl (fun ls hl => ?_)
                refine lv_goto (tgt := 2) hx hb dX9_endJobs_70 (by decide) ?_
                exact ih3 (i1 + 1)  F19 V6 _ _ _ (by omega) (by omega) (hI.mono (by omega)) hU hV  hP hD hS (lv_sub hl [0, 1] rfl)
  exact lp4 (n + 1) 0  F V _ _ _ (by omega) (by omega) (hI.mono (by omega)) hU hV  hP hD hS hl
def wq_m_isFree : List Cond := [.code yX9_isFree cX9_isFree 4 (some .boolean), .fieldLink RX9 126 "ServiceTreeModel" "services" "I", .fieldLink RX9 31 "ServiceTreeModel" "state" "[I", .methodLink RX9 231 yX9_hasNeeds, .instanceMethod yX9_hasNeeds, .selects RX9 yX9_hasNeeds yX9_hasNeeds, .initialized RX9, .methodLink RX9 150 yX9_has, .instanceMethod yX9_has, .selects RX9 yX9_has yX9_has] ++ (wsX90 ++ (wq_m_hasNeeds ++ (wq_m_has)))
theorem in_m_isFree_X9 : ∀ w ∈ wsX90, w ∈ wq_m_isFree := fun _ h => List.mem_append_right _ (List.mem_append_left _ (h))
set_option maxRecDepth 20000 in
theorem wi_m_isFree : ∀ w ∈ wq_m_isFree, w ∈ lw_tbl := List.forall_mem_append.mpr ⟨(by decide +kernel), List.forall_mem_append.mpr ⟨inKX9, List.forall_mem_append.mpr ⟨wi_m_hasNeeds, wi_m_has⟩⟩⟩
set_option maxRecDepth 20000 in
theorem wg_m_isFree : GoodIn wq_m_isFree wq_m_isFree := goodIn_sub (fun _ h => h) (by decide +kernel)
set_option maxRecDepth 20000 in
theorem wc_m_isFree_m_hasNeeds_231 : GoodIn wq_m_isFree (wsV RX9 231 RX9 yX9_hasNeeds wq_m_hasNeeds) := goodIn_app (goodIn_of _ (by decide +kernel)) (fun w h => ⟨List.mem_append_right _ (List.mem_append_right _ (List.mem_append_left _ (h))), (wg_m_hasNeeds w h).2⟩)
set_option maxRecDepth 20000 in
theorem wc_m_isFree_m_has_150 : GoodIn wq_m_isFree (wsV RX9 150 RX9 yX9_has wq_m_has) := goodIn_app (goodIn_of _ (by decide +kernel)) (fun w h => ⟨List.mem_append_right _ (List.mem_append_right _ (List.mem_append_right _ (h))), (wg_m_has w h).2⟩)
def rm_m_isFree : Room := { frames := 2, cells := 0, slots := 0, locals := 46 }
set_option maxHeartbeats 4000000 in
set_option maxRecDepth 100000 in
theorem c_m_isFree (l : Launch) (dC : Nat → ClassId) (dI : Nat → Nat → Nat) (h : Nat) (a : Nat → Nat) (k : Nat → ClassId) (F : Nat → Nat → Int32) (V : Nat → Int32) (n b : Nat) (sv : Nat) (sz : Nat) (hI0 : InvM n b F V) (hb0 : b + 0 < 2147483648) (hp0 : sv < n) : Met l yX9_isFree wq_m_isFree rm_m_isFree (va_Pc [.ref h, .int (nI sv)] (fun U => U.heap.size = sz ∧ va_P (dC, dI) vwCl (mW h a k F V) U.heap ∧ va_K (dC, dI) vwCl (mT k) U ∧ va_D (fun _ => True) (mW h a k F V))) (va_Qi (fun (r : Int32) (u : (Nat → Nat → Int32) × (Nat → Int32)) => u.1 = F ∧ u.2 = V ∧ (r = 0 ∨ r = 1)) (fun (u : (Nat → Nat → Int32) × (Nat → Int32)) (t : State) => va_P (dC, dI) vwCl (mW h a k u.1 u.2) t.heap ∧ va_D (va_A (mW h a k F V) sz) (mW h a k u.1 u.2)) (va_A (mW h a k F V) sz)) 0 0 (va_A (mW h a k F V) sz) := by
  have hn : n ≤ 40 := hI0.1
  have hI : StM n b F V F V := StM.rf hI0
  have hU : ∀ j : Nat, j ∉ ([] : List Nat) → F j = F j := fun _ _ => rfl
  have hV : ∀ j : Nat, j ∉ ([] : List Nat) → V j = V j := fun _ _ => rfl
  refine Met.ofW (cc := cX9_isFree) (maxL := 4) (ret := (some .boolean)) (by decide) rfl ?_
  intro p e s m args below meth c s₁ B hml hv
  obtain ⟨rfl, hsz, hP, hK, hD0⟩ := hv
  have hx := B.exec
  have hb := B.bytes
  have hr := B.returns
  have hts := atoms_spec (ws := wq_m_isFree) B.pre
  have hown : s.vm.findClass RX9 = some m.cls := findClass_of_methodNamed B.named
  have hlocks := B.notSynchronized
  subst hsz
  have hD := hD0.self (sz := s.heap.size)
  generalize hAe : va_A (mW h a k F V) s.heap.size = A at hD ⊢
  have hA : ∀ q : Nat, s.heap.size ≤ q → A q := fun q h => by rw [← hAe]; exact Or.inr h
  have hS : va_S A s.heap s.heap [] := va_S.rf
  have hl := lv_entry ([.ref h, .int (nI sv)]) (n := 4) (Nat.le_of_ble_eq_true rfl)
  rw [lg_entry_eq]
  generalize (lg_sl ([.ref h, .int (nI sv)]) ++ List.replicate (4 - (lg_sl ([.ref h, .int (nI sv)])).length) Slot.unset).toArray = ls at hl ⊢
  have hl : lv_has ls 4 [(0, .ref h), (1, .int (nI sv))] := hl
  refine mw_Q (fun Q0 hQ => ?_)
  refine lv_aload_n hx hb dX9_isFree_0 rfl (lv_at hl 0 rfl) ?_
  refine lv_iload_n hx hb dX9_isFree_1 rfl (lv_at hl 1 rfl) ?_
  have hFc := mw_free hD hS hA
  refine va_calli (va_runV (As := [.int (nI sv)]) (rest := []) ⟨hx, hb, hml, hown, hts⟩ (c_m_hasNeeds l dC dI h a k F V n (b) sv s.heap.size hI.1 (by omega) (by omega)) (cwV 1 hts wc_m_isFree_m_hasNeeds_231 rfl rfl rfl (by decide +kernel) ⟨Nat.le_of_ble_eq_true rfl, Nat.le_of_ble_eq_true rfl⟩) ⟨fun a9 U g mk q => by obtain ⟨q0, q1, qP, qK, qD⟩ := q; exact ⟨q0, q1, qP, va_K.moved (u := U) (U := U.calling g mk a9) (Vm.Alike.refl U.vm) qK, qD⟩, va_recv hK hP (ci := 10) (q0 := 0) rfl rfl, fun U hU hW => ⟨rfl, by rw [hU], by rw [hU]; exact hP, va_K.moved hW.alike hK, hD.weaken (fun _ _ _ _ => trivial)⟩⟩ rfl rfl hl.1 rfl (lv_room (Nat.le_of_ble_eq_true rfl)) dX9_isFree_2 ⟨Nat.le_of_ble_eq_true rfl, Nat.le_of_ble_eq_true rfl⟩) hS (fun q _ h => hFc q h) hFc (fun r1 u t H1 locs ht hvm hw hB hz1 hk1 hS => ?_)
  obtain ⟨F2, V3⟩ := u
  replace hP := hB.1
  rw [ht] at hP
  replace hD : va_D A (mW h a k F2 V3) := hB.2.weaken (fun _ q _ h9 => hFc q.1 h9)
  clear hB
  generalize H1 = H at hP hS ⊢
  replace hP : va_P (dC, dI) vwCl (mW h a k F2 V3) H := hP
  obtain ⟨hwF, hwV, hw⟩ : F2 = F ∧ V3 = V ∧ _ := hw
  rw [hwF, hwV] at hP hD
  have br1 := hw
  refine lv_istore_n (lv' := [(2, .int r1), (0, .ref h), (1, .int (nI sv))]) hx hb dX9_isFree_5 rfl hl (by decide) rfl (fun ls hl => ?_)
  refine lv_iconst (v := 0) hx hb dX9_isFree_6 (by decide) ?_
  refine lv_istore_n (lv' := [(3, .int 0), (2, .int r1), (0, .ref h), (1, .int (nI sv))]) hx hb dX9_isFree_7 rfl hl (by decide) rfl (fun ls hl => ?_)
  have lp7 : ∀ (fu5 i4 : Nat) (y8 : Int32) (H : Heap) (locs : List Loc) (ls : Array Slot), n < i4 + fu5 → i4 ≤ n → (y8 = 0 ∨ y8 = 1) → va_P (dC, dI) vwCl (mW h a k F V) H → va_D A (mW h a k F V) → va_S A s.heap H locs → lv_has ls 4 [(3, .int (nI i4)), (2, .int y8), (0, .ref h), (1, .int (nI sv))] → W p l e (headSpec wq_m_isFree rm_m_isFree).room s m ([.ref h, .int (nI sv)] : List Value).toArray below meth c H locs 0 0 Q0 (F0 m 8 ls []) := by
    intro fu5
    induction fu5 with
    | zero =>
      intro i4 y8 H locs ls hf hi
      exact absurd hf (by omega)
    | succ fu5 ih6 =>
      intro i4 y8 H locs ls hfi4 hii4 hb2_i4 hP hD hS hl
      refine lv_iload_n hx hb dX9_isFree_8 rfl (lv_at hl 0 rfl) ?_
      refine lv_aload_n hx hb dX9_isFree_9 rfl (lv_at hl 2 rfl) ?_
      refine va_get (D := (dC, dI)) (ci := 10) (v := .int (V 21)) (C := RX9) (T := TX9) (N := 46) hx hb hts in_m_isFree_X9 hown hK hP 0 rfl rfl 21 (by decide) (hts (.fieldLink RX9 126 "ServiceTreeModel" "services" "I") (by decide +kernel)) (fun _ h9 => h9) rfl dX9_isFree_10 ?_
      refine p1_topr (v := .int (nI n)) (congrArg Value.int hI.1.2.1) ?_
      refine lv_icmp_ge (tgt := 72) hx hb dX9_isFree_13 (by decide) (fun c9 => ?_) (fun c9 => ?_)
      · replace c9 : n ≤ i4 := (nI_leI (a := n) (b := i4) (by omega) (by omega)).mp c9
        refine lv_iload_n hx hb dX9_isFree_72 rfl (lv_at hl 1 rfl) ?_
        rw [hQ]
        exact W.zret (v := y8) hx hb hr (mw_nb hb2_i4) (fun t ht hW => ⟨⟨y8, (F, V), rfl, ⟨rfl, rfl, hb2_i4⟩, by rw [ht]; exact hP, hD⟩, hS.F ht⟩) hS.2.2 dX9_isFree_73
      · replace c9 : ¬ (n ≤ i4) := fun q9 => c9 ((nI_leI (a := n) (b := i4) (by omega) (by omega)).mpr q9)
        refine lv_iload_n hx hb dX9_isFree_16 rfl (lv_at hl 1 rfl) ?_
        refine lv_if_eq (tgt := 64) hx hb dX9_isFree_17 (by decide) (fun c10 => ?_) (fun c10 => ?_)
        · refine lv_iconst (v := 0) hx hb dX9_isFree_64 (by decide) ?_
          refine lv_istore_n (lv' := [(2, .int 0), (3, .int (nI i4)), (0, .ref h), (1, .int (nI sv))]) hx hb dX9_isFree_65 rfl hl (by decide) rfl (fun ls hl => ?_)
          refine lv_iinc (v := nI (i4 + 1)) (lv' := [(3, .int (nI (i4 + 1))), (2, .int 0), (0, .ref h), (1, .int (nI sv))]) hx hb dX9_isFree_66 hl (k := 1) rfl (nI_add i4 1) (by decide) rfl (fun ls hl => ?_)
          refine lv_goto (tgt := 8) hx hb dX9_isFree_69 (by decide) ?_
          exact ih6 (i4 + 1) 0 _ _ _ (by omega) (by omega) (Or.inl rfl) hP hD hS (lv_sub hl [0, 1, 2, 3] rfl)
        · refine lv_aload_n hx hb dX9_isFree_20 rfl (lv_at hl 2 rfl) ?_
          refine lv_iconst (v := 3) hx hb dX9_isFree_21 (by decide) ?_
          refine lv_iload_n hx hb dX9_isFree_22 rfl (lv_at hl 3 rfl) ?_
          refine lv_iload_n hx hb dX9_isFree_23 rfl (lv_at hl 0 rfl) ?_
          have hFc := mw_free hD hS hA
          refine va_calli (va_runV (As := [.int 3, .int (nI sv), .int (nI i4)]) (rest := []) ⟨hx, hb, hml, hown, hts⟩ (c_m_has l dC dI h a k F V n (b) 3 sv i4 H.size hI.1 (by omega) (by omega) (by omega) (by omega)) (cwV 3 hts wc_m_isFree_m_has_150 rfl rfl rfl (by decide +kernel) ⟨Nat.le_of_ble_eq_true rfl, Nat.le_of_ble_eq_true rfl⟩) ⟨fun a9 U g mk q => by obtain ⟨q0, q1, qP, qK, qD⟩ := q; exact ⟨q0, q1, qP, va_K.moved (u := U) (U := U.calling g mk a9) (Vm.Alike.refl U.vm) qK, qD⟩, va_recv hK hP (ci := 10) (q0 := 0) rfl rfl, fun U hU hW => ⟨rfl, by rw [hU], by rw [hU]; exact hP, va_K.moved hW.alike hK, hD.weaken (fun _ _ _ _ => trivial)⟩⟩ rfl rfl hl.1 rfl (lv_room (Nat.le_of_ble_eq_true rfl)) dX9_isFree_24 ⟨Nat.le_of_ble_eq_true rfl, Nat.le_of_ble_eq_true rfl⟩) hS (fun q _ h => hFc q h) hFc (fun r11 u t H1 locs ht hvm hw hB hz1 hk1 hS => ?_)
          obtain ⟨F12, V13⟩ := u
          replace hP := hB.1
          rw [ht] at hP
          replace hD : va_D A (mW h a k F12 V13) := hB.2.weaken (fun _ q _ h9 => hFc q.1 h9)
          clear hB
          generalize H1 = H at hP hS ⊢
          replace hP : va_P (dC, dI) vwCl (mW h a k F12 V13) H := hP
          obtain ⟨hwF, hwV, hw⟩ : F12 = F ∧ V13 = V ∧ _ := hw
          rw [hwF, hwV] at hP hD
          have br11 := hw
          refine lv_if_eq (tgt := 60) hx hb dX9_isFree_27 (by decide) (fun c14 => ?_) (fun c14 => ?_)
          · refine lv_iconst (v := 1) hx hb dX9_isFree_60 (by decide) ?_
            refine lv_goto (tgt := 65) hx hb dX9_isFree_61 (by decide) ?_
            refine lv_istore_n (lv' := [(2, .int 1), (3, .int (nI i4)), (0, .ref h), (1, .int (nI sv))]) hx hb dX9_isFree_65 rfl hl (by decide) rfl (fun ls hl => ?_)
            refine lv_iinc (v := nI (i4 + 1)) (lv' := [(3, .int (nI (i4 + 1))), (2, .int 1), (0, .ref h), (1, .int (nI sv))]) hx hb dX9_isFree_66 hl (k := 1) rfl (nI_add i4 1) (by decide) rfl (fun ls hl => ?_)
            refine lv_goto (tgt := 8) hx hb dX9_isFree_69 (by decide) ?_
            exact ih6 (i4 + 1) 1 _ _ _ (by omega) (by omega) (Or.inr rfl) hP hD hS (lv_sub hl [0, 1, 2, 3] rfl)
          · refine lv_aload_n hx hb dX9_isFree_30 rfl (lv_at hl 2 rfl) ?_
            refine va_get (D := (dC, dI)) (ci := 10) (v := .ref (a 7)) (C := RX9) (T := TX9) (N := 46) hx hb hts in_m_isFree_X9 hown hK hP 0 rfl rfl 7 (by decide) (hts (.fieldLink RX9 31 "ServiceTreeModel" "state" "[I") (by decide +kernel)) (fun _ h9 => h9) rfl dX9_isFree_31 ?_
            refine lv_iload_n hx hb dX9_isFree_34 rfl (lv_at hl 0 rfl) ?_
            refine va_iald (n := 40) (f := F 7) hx hb hK hP 8 7 rfl rfl (vp_in_nI (n := i4) (by omega) (by decide)) dX9_isFree_35 ?_
            refine lv_topi (fun x15 ex15 => ?_)
            refine lv_iconst (v := 1) hx hb dX9_isFree_36 (by decide) ?_
            refine lv_icmp_eq (tgt := 64) hx hb dX9_isFree_37 (by decide) (fun c16 => ?_) (fun c16 => ?_)
            · refine lv_iconst (v := 0) hx hb dX9_isFree_64 (by decide) ?_
              refine lv_istore_n (lv' := [(2, .int 0), (3, .int (nI i4)), (0, .ref h), (1, .int (nI sv))]) hx hb dX9_isFree_65 rfl hl (by decide) rfl (fun ls hl => ?_)
              refine lv_iinc (v := nI (i4 + 1)) (lv' := [(3, .int (nI (i4 + 1))), (2, .int 0), (0, .ref h), (1, .int (nI sv))]) hx hb dX9_isFree_66 hl (k := 1) rfl (nI_add i4 1) (by decide) rfl (fun ls hl => ?_)
              refine lv_goto (tgt := 8) hx hb dX9_isFree_69 (by decide) ?_
              exact ih6 (i4 + 1) 0 _ _ _ (by omega) (by omega) (Or.inl rfl) hP hD hS (lv_sub hl [0, 1, 2, 3] rfl)
            · refine lv_aload_n hx hb dX9_isFree_40 rfl (lv_at hl 2 rfl) ?_
              refine va_get (D := (dC, dI)) (ci := 10) (v := .ref (a 7)) (C := RX9) (T := TX9) (N := 46) hx hb hts in_m_isFree_X9 hown hK hP 0 rfl rfl 7 (by decide) (hts (.fieldLink RX9 31 "ServiceTreeModel" "state" "[I") (by decide +kernel)) (fun _ h9 => h9) rfl dX9_isFree_41 ?_
              refine lv_iload_n hx hb dX9_isFree_44 rfl (lv_at hl 0 rfl) ?_
              refine va_iald (n := 40) (f := F 7) hx hb hK hP 8 7 rfl rfl (vp_in_nI (n := i4) (by omega) (by decide)) dX9_isFree_45 ?_
              refine p1_topr (v := .int x15) (congrArg Value.int ex15.symm) ?_
              refine lv_iconst (v := 2) hx hb dX9_isFree_46 (by decide) ?_
              refine lv_icmp_eq (tgt := 64) hx hb dX9_isFree_47 (by decide) (fun c18 => ?_) (fun c18 => ?_)
              · refine lv_iconst (v := 0) hx hb dX9_isFree_64 (by decide) ?_
                refine lv_istore_n (lv' := [(2, .int 0), (3, .int (nI i4)), (0, .ref h), (1, .int (nI sv))]) hx hb dX9_isFree_65 rfl hl (by decide) rfl (fun ls hl => ?_)
                refine lv_iinc (v := nI (i4 + 1)) (lv' := [(3, .int (nI (i4 + 1))), (2, .int 0), (0, .ref h), (1, .int (nI sv))]) hx hb dX9_isFree_66 hl (k := 1) rfl (nI_add i4 1) (by decide) rfl (fun ls hl => ?_)
                refine lv_goto (tgt := 8) hx hb dX9_isFree_69 (by decide) ?_
                exact ih6 (i4 + 1) 0 _ _ _ (by omega) (by omega) (Or.inl rfl) hP hD hS (lv_sub hl [0, 1, 2, 3] rfl)
              · refine lv_aload_n hx hb dX9_isFree_50 rfl (lv_at hl 2 rfl) ?_
                refine va_get (D := (dC, dI)) (ci := 10) (v := .ref (a 7)) (C := RX9) (T := TX9) (N := 46) hx hb hts in_m_isFree_X9 hown hK hP 0 rfl rfl 7 (by decide) (hts (.fieldLink RX9 31 "ServiceTreeModel" "state" "[I") (by decide +kernel)) (fun _ h9 => h9) rfl dX9_isFree_51 ?_
                refine lv_iload_n hx hb dX9_isFree_54 rfl (lv_at hl 0 rfl) ?_
                refine va_iald (n := 40) (f := F 7) hx hb hK hP 8 7 rfl rfl (vp_in_nI (n := i4) (by omega) (by decide)) dX9_isFree_55 ?_
                refine p1_topr (v := .int x15) (congrArg Value.int ex15.symm) ?_
                refine lv_iconst (v := 3) hx hb dX9_isFree_56 (by decide) ?_
                refine lv_icmp_eq (tgt := 64) hx hb dX9_isFree_57 (by decide) (fun c20 => ?_) (fun c20 => ?_)
                · refine lv_iconst (v := 0) hx hb dX9_isFree_64 (by decide) ?_
                  refine lv_istore_n (lv' := [(2, .int 0), (3, .int (nI i4)), (0, .ref h), (1, .int (nI sv))]) hx hb dX9_isFree_65 rfl hl (by decide) rfl (fun ls hl => ?_)
                  refine lv_iinc (v := nI (i4 + 1)) (lv' := [(3, .int (nI (i4 + 1))), (2, .int 0), (0, .ref h), (1, .int (nI sv))]) hx hb dX9_isFree_66 hl (k := 1) rfl (nI_add i4 1) (by decide) rfl (fun ls hl => ?_)
                  refine lv_goto (tgt := 8) hx hb dX9_isFree_69 (by decide) ?_
                  exact ih6 (i4 + 1) 0 _ _ _ (by omega) (by omega) (Or.inl rfl) hP hD hS (lv_sub hl [0, 1, 2, 3] rfl)
                · refine lv_iconst (v := 1) hx hb dX9_isFree_60 (by decide) ?_
                  refine lv_goto (tgt := 65) hx hb dX9_isFree_61 (by decide) ?_
                  refine lv_istore_n (lv' := [(2, .int 1), (3, .int (nI i4)), (0, .ref h), (1, .int (nI sv))]) hx hb dX9_isFree_65 rfl hl (by decide) rfl (fun ls hl => ?_)
                  refine lv_iinc (v := nI (i4 + 1)) (lv' := [(3, .int (nI (i4 + 1))), (2, .int 1), (0, .ref h), (1, .int (nI sv))]) hx hb dX9_isFree_66 hl (k := 1) rfl (nI_add i4 1) (by decide) rfl (fun ls hl => ?_)
                  refine lv_goto (tgt := 8) hx hb dX9_isFree_69 (by decide) ?_
                  exact ih6 (i4 + 1) 1 _ _ _ (by omega) (by omega) (Or.inr rfl) hP hD hS (lv_sub hl [0, 1, 2, 3] rfl)
  exact lp7 (n + 1) 0 r1 _ _ _ (by omega) (by omega) br1 hP hD hS hl
