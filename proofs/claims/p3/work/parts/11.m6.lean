theorem dX9_beginOne_0 : decode cX9_beginOne 0 = .ok (.aload_n 0, 1) := by decide +kernel
theorem dX9_beginOne_1 : decode cX9_beginOne 1 = .ok (.getfield 74, 3) := by decide +kernel
theorem dX9_beginOne_4 : decode cX9_beginOne 4 = .ok (.iload_n 1, 1) := by decide +kernel
theorem dX9_beginOne_5 : decode cX9_beginOne 5 = .ok (.iconst 1, 1) := by decide +kernel
theorem dX9_beginOne_6 : decode cX9_beginOne 6 = .ok (.bastore, 1) := by decide +kernel
theorem dX9_beginOne_7 : decode cX9_beginOne 7 = .ok (.aload_n 0, 1) := by decide +kernel
theorem dX9_beginOne_8 : decode cX9_beginOne 8 = .ok (.getfield 71, 3) := by decide +kernel
theorem dX9_beginOne_11 : decode cX9_beginOne 11 = .ok (.iload_n 1, 1) := by decide +kernel
theorem dX9_beginOne_12 : decode cX9_beginOne 12 = .ok (.iaload, 1) := by decide +kernel
theorem dX9_beginOne_13 : decode cX9_beginOne 13 = .ok (.iconst 1, 1) := by decide +kernel
theorem dX9_beginOne_14 : decode cX9_beginOne 14 = .ok (.if_icmp .ne 43, 3) := by decide +kernel
theorem dX9_beginOne_17 : decode cX9_beginOne 17 = .ok (.aload_n 0, 1) := by decide +kernel
theorem dX9_beginOne_18 : decode cX9_beginOne 18 = .ok (.iload_n 1, 1) := by decide +kernel
theorem dX9_beginOne_19 : decode cX9_beginOne 19 = .ok (.invokevirtual 231, 3) := by decide +kernel
theorem dX9_beginOne_22 : decode cX9_beginOne 22 = .ok (.ifCond .ne 13, 3) := by decide +kernel
theorem dX9_beginOne_25 : decode cX9_beginOne 25 = .ok (.aload_n 0, 1) := by decide +kernel
theorem dX9_beginOne_26 : decode cX9_beginOne 26 = .ok (.getfield 71, 3) := by decide +kernel
theorem dX9_beginOne_29 : decode cX9_beginOne 29 = .ok (.iload_n 1, 1) := by decide +kernel
theorem dX9_beginOne_30 : decode cX9_beginOne 30 = .ok (.iconst 0, 1) := by decide +kernel
theorem dX9_beginOne_31 : decode cX9_beginOne 31 = .ok (.iastore, 1) := by decide +kernel
theorem dX9_beginOne_32 : decode cX9_beginOne 32 = .ok (.goto 86, 3) := by decide +kernel
theorem dX9_beginOne_35 : decode cX9_beginOne 35 = .ok (.aload_n 0, 1) := by decide +kernel
theorem dX9_beginOne_36 : decode cX9_beginOne 36 = .ok (.iload_n 1, 1) := by decide +kernel
theorem dX9_beginOne_37 : decode cX9_beginOne 37 = .ok (.aload_n 0, 1) := by decide +kernel
theorem dX9_beginOne_38 : decode cX9_beginOne 38 = .ok (.getfield 13, 3) := by decide +kernel
theorem dX9_beginOne_41 : decode cX9_beginOne 41 = .ok (.iload_n 1, 1) := by decide +kernel
theorem dX9_beginOne_42 : decode cX9_beginOne 42 = .ok (.iaload, 1) := by decide +kernel
theorem dX9_beginOne_43 : decode cX9_beginOne 43 = .ok (.ifCond .ne 7, 3) := by decide +kernel
theorem dX9_beginOne_46 : decode cX9_beginOne 46 = .ok (.iconst 2, 1) := by decide +kernel
theorem dX9_beginOne_47 : decode cX9_beginOne 47 = .ok (.goto 4, 3) := by decide +kernel
theorem dX9_beginOne_50 : decode cX9_beginOne 50 = .ok (.iconst 1, 1) := by decide +kernel
theorem dX9_beginOne_51 : decode cX9_beginOne 51 = .ok (.invokevirtual 211, 3) := by decide +kernel
theorem dX9_beginOne_54 : decode cX9_beginOne 54 = .ok (.goto 64, 3) := by decide +kernel
theorem dX9_beginOne_57 : decode cX9_beginOne 57 = .ok (.aload_n 0, 1) := by decide +kernel
theorem dX9_beginOne_58 : decode cX9_beginOne 58 = .ok (.getfield 31, 3) := by decide +kernel
theorem dX9_beginOne_61 : decode cX9_beginOne 61 = .ok (.iload_n 1, 1) := by decide +kernel
theorem dX9_beginOne_62 : decode cX9_beginOne 62 = .ok (.iaload, 1) := by decide +kernel
theorem dX9_beginOne_63 : decode cX9_beginOne 63 = .ok (.invokestatic 147, 3) := by decide +kernel
theorem dX9_beginOne_66 : decode cX9_beginOne 66 = .ok (.ifCond .eq 13, 3) := by decide +kernel
theorem dX9_beginOne_69 : decode cX9_beginOne 69 = .ok (.aload_n 0, 1) := by decide +kernel
theorem dX9_beginOne_70 : decode cX9_beginOne 70 = .ok (.getfield 71, 3) := by decide +kernel
theorem dX9_beginOne_73 : decode cX9_beginOne 73 = .ok (.iload_n 1, 1) := by decide +kernel
theorem dX9_beginOne_74 : decode cX9_beginOne 74 = .ok (.iconst 0, 1) := by decide +kernel
theorem dX9_beginOne_75 : decode cX9_beginOne 75 = .ok (.iastore, 1) := by decide +kernel
theorem dX9_beginOne_76 : decode cX9_beginOne 76 = .ok (.goto 42, 3) := by decide +kernel
theorem dX9_beginOne_79 : decode cX9_beginOne 79 = .ok (.aload_n 0, 1) := by decide +kernel
theorem dX9_beginOne_80 : decode cX9_beginOne 80 = .ok (.getfield 31, 3) := by decide +kernel
theorem dX9_beginOne_83 : decode cX9_beginOne 83 = .ok (.iload_n 1, 1) := by decide +kernel
theorem dX9_beginOne_84 : decode cX9_beginOne 84 = .ok (.iaload, 1) := by decide +kernel
theorem dX9_beginOne_85 : decode cX9_beginOne 85 = .ok (.iconst 3, 1) := by decide +kernel
theorem dX9_beginOne_86 : decode cX9_beginOne 86 = .ok (.if_icmp .eq 32, 3) := by decide +kernel
theorem dX9_beginOne_89 : decode cX9_beginOne 89 = .ok (.aload_n 0, 1) := by decide +kernel
theorem dX9_beginOne_90 : decode cX9_beginOne 90 = .ok (.iload_n 1, 1) := by decide +kernel
theorem dX9_beginOne_91 : decode cX9_beginOne 91 = .ok (.aload_n 0, 1) := by decide +kernel
theorem dX9_beginOne_92 : decode cX9_beginOne 92 = .ok (.getfield 16, 3) := by decide +kernel
theorem dX9_beginOne_95 : decode cX9_beginOne 95 = .ok (.iload_n 1, 1) := by decide +kernel
theorem dX9_beginOne_96 : decode cX9_beginOne 96 = .ok (.iaload, 1) := by decide +kernel
theorem dX9_beginOne_97 : decode cX9_beginOne 97 = .ok (.ifCond .eq 13, 3) := by decide +kernel
theorem dX9_beginOne_100 : decode cX9_beginOne 100 = .ok (.aload_n 0, 1) := by decide +kernel
theorem dX9_beginOne_101 : decode cX9_beginOne 101 = .ok (.getfield 31, 3) := by decide +kernel
theorem dX9_beginOne_104 : decode cX9_beginOne 104 = .ok (.iload_n 1, 1) := by decide +kernel
theorem dX9_beginOne_105 : decode cX9_beginOne 105 = .ok (.iaload, 1) := by decide +kernel
theorem dX9_beginOne_106 : decode cX9_beginOne 106 = .ok (.iconst 5, 1) := by decide +kernel
theorem dX9_beginOne_107 : decode cX9_beginOne 107 = .ok (.if_icmp .ne 7, 3) := by decide +kernel
theorem dX9_beginOne_110 : decode cX9_beginOne 110 = .ok (.iconst 0, 1) := by decide +kernel
theorem dX9_beginOne_111 : decode cX9_beginOne 111 = .ok (.goto 4, 3) := by decide +kernel
theorem dX9_beginOne_114 : decode cX9_beginOne 114 = .ok (.iconst 3, 1) := by decide +kernel
theorem dX9_beginOne_115 : decode cX9_beginOne 115 = .ok (.invokevirtual 211, 3) := by decide +kernel
theorem dX9_beginOne_118 : decode cX9_beginOne 118 = .ok (.return_, 1) := by decide +kernel
theorem dX9_failsNow_0 : decode cX9_failsNow 0 = .ok (.aload_n 0, 1) := by decide +kernel
theorem dX9_failsNow_1 : decode cX9_failsNow 1 = .ok (.getfield 40, 3) := by decide +kernel
theorem dX9_failsNow_4 : decode cX9_failsNow 4 = .ok (.iload_n 1, 1) := by decide +kernel
theorem dX9_failsNow_5 : decode cX9_failsNow 5 = .ok (.dup2, 1) := by decide +kernel
theorem dX9_failsNow_6 : decode cX9_failsNow 6 = .ok (.iaload, 1) := by decide +kernel
theorem dX9_failsNow_7 : decode cX9_failsNow 7 = .ok (.iconst 1, 1) := by decide +kernel
theorem dX9_failsNow_8 : decode cX9_failsNow 8 = .ok (.iadd, 1) := by decide +kernel
theorem dX9_failsNow_9 : decode cX9_failsNow 9 = .ok (.iastore, 1) := by decide +kernel
theorem dX9_failsNow_10 : decode cX9_failsNow 10 = .ok (.iconst 0, 1) := by decide +kernel
theorem dX9_failsNow_11 : decode cX9_failsNow 11 = .ok (.istore_n 2, 1) := by decide +kernel
theorem dX9_failsNow_12 : decode cX9_failsNow 12 = .ok (.iconst 0, 1) := by decide +kernel
theorem dX9_failsNow_13 : decode cX9_failsNow 13 = .ok (.istore_n 3, 1) := by decide +kernel
theorem dX9_failsNow_14 : decode cX9_failsNow 14 = .ok (.iload_n 3, 1) := by decide +kernel
theorem dX9_failsNow_15 : decode cX9_failsNow 15 = .ok (.aload_n 0, 1) := by decide +kernel
theorem dX9_failsNow_16 : decode cX9_failsNow 16 = .ok (.getfield 53, 3) := by decide +kernel
theorem dX9_failsNow_19 : decode cX9_failsNow 19 = .ok (.iload_n 1, 1) := by decide +kernel
theorem dX9_failsNow_20 : decode cX9_failsNow 20 = .ok (.iaload, 1) := by decide +kernel
theorem dX9_failsNow_21 : decode cX9_failsNow 21 = .ok (.if_icmp .ge 42, 3) := by decide +kernel
theorem dX9_failsNow_24 : decode cX9_failsNow 24 = .ok (.iload_n 2, 1) := by decide +kernel
theorem dX9_failsNow_25 : decode cX9_failsNow 25 = .ok (.aload_n 0, 1) := by decide +kernel
theorem dX9_failsNow_26 : decode cX9_failsNow 26 = .ok (.getfield 129, 3) := by decide +kernel
theorem dX9_failsNow_29 : decode cX9_failsNow 29 = .ok (.aload_n 0, 1) := by decide +kernel
theorem dX9_failsNow_30 : decode cX9_failsNow 30 = .ok (.getfield 50, 3) := by decide +kernel
theorem dX9_failsNow_33 : decode cX9_failsNow 33 = .ok (.bipush 10, 2) := by decide +kernel
theorem dX9_failsNow_35 : decode cX9_failsNow 35 = .ok (.iload_n 1, 1) := by decide +kernel
theorem dX9_failsNow_36 : decode cX9_failsNow 36 = .ok (.imul, 1) := by decide +kernel
theorem dX9_failsNow_37 : decode cX9_failsNow 37 = .ok (.iload_n 3, 1) := by decide +kernel
theorem dX9_failsNow_38 : decode cX9_failsNow 38 = .ok (.iadd, 1) := by decide +kernel
theorem dX9_failsNow_39 : decode cX9_failsNow 39 = .ok (.iaload, 1) := by decide +kernel
theorem dX9_failsNow_40 : decode cX9_failsNow 40 = .ok (.isub, 1) := by decide +kernel
theorem dX9_failsNow_41 : decode cX9_failsNow 41 = .ok (.aload_n 0, 1) := by decide +kernel
theorem dX9_failsNow_42 : decode cX9_failsNow 42 = .ok (.getfield 28, 3) := by decide +kernel
theorem dX9_failsNow_45 : decode cX9_failsNow 45 = .ok (.iload_n 1, 1) := by decide +kernel
theorem dX9_failsNow_46 : decode cX9_failsNow 46 = .ok (.iaload, 1) := by decide +kernel
theorem dX9_failsNow_47 : decode cX9_failsNow 47 = .ok (.if_icmp .ge 7, 3) := by decide +kernel
theorem dX9_failsNow_50 : decode cX9_failsNow 50 = .ok (.iconst 1, 1) := by decide +kernel
theorem dX9_failsNow_51 : decode cX9_failsNow 51 = .ok (.goto 4, 3) := by decide +kernel
theorem dX9_failsNow_54 : decode cX9_failsNow 54 = .ok (.iconst 0, 1) := by decide +kernel
theorem dX9_failsNow_55 : decode cX9_failsNow 55 = .ok (.iadd, 1) := by decide +kernel
theorem dX9_failsNow_56 : decode cX9_failsNow 56 = .ok (.istore_n 2, 1) := by decide +kernel
theorem dX9_failsNow_57 : decode cX9_failsNow 57 = .ok (.iinc 3 1, 3) := by decide +kernel
theorem dX9_failsNow_60 : decode cX9_failsNow 60 = .ok (.goto (-46), 3) := by decide +kernel
theorem dX9_failsNow_63 : decode cX9_failsNow 63 = .ok (.aload_n 0, 1) := by decide +kernel
theorem dX9_failsNow_64 : decode cX9_failsNow 64 = .ok (.getfield 25, 3) := by decide +kernel
theorem dX9_failsNow_67 : decode cX9_failsNow 67 = .ok (.iload_n 1, 1) := by decide +kernel
theorem dX9_failsNow_68 : decode cX9_failsNow 68 = .ok (.iaload, 1) := by decide +kernel
theorem dX9_failsNow_69 : decode cX9_failsNow 69 = .ok (.ifCond .eq 13, 3) := by decide +kernel
theorem dX9_failsNow_72 : decode cX9_failsNow 72 = .ok (.iload_n 2, 1) := by decide +kernel
theorem dX9_failsNow_73 : decode cX9_failsNow 73 = .ok (.aload_n 0, 1) := by decide +kernel
theorem dX9_failsNow_74 : decode cX9_failsNow 74 = .ok (.getfield 25, 3) := by decide +kernel
theorem dX9_failsNow_77 : decode cX9_failsNow 77 = .ok (.iload_n 1, 1) := by decide +kernel
theorem dX9_failsNow_78 : decode cX9_failsNow 78 = .ok (.iaload, 1) := by decide +kernel
theorem dX9_failsNow_79 : decode cX9_failsNow 79 = .ok (.if_icmp .lt 10, 3) := by decide +kernel
theorem dX9_failsNow_82 : decode cX9_failsNow 82 = .ok (.aload_n 0, 1) := by decide +kernel
theorem dX9_failsNow_83 : decode cX9_failsNow 83 = .ok (.iload_n 1, 1) := by decide +kernel
theorem dX9_failsNow_84 : decode cX9_failsNow 84 = .ok (.iconst 4, 1) := by decide +kernel
theorem dX9_failsNow_85 : decode cX9_failsNow 85 = .ok (.invokevirtual 211, 3) := by decide +kernel
theorem dX9_failsNow_88 : decode cX9_failsNow 88 = .ok (.return_, 1) := by decide +kernel
theorem dX9_failsNow_89 : decode cX9_failsNow 89 = .ok (.aload_n 0, 1) := by decide +kernel
theorem dX9_failsNow_90 : decode cX9_failsNow 90 = .ok (.getfield 53, 3) := by decide +kernel
theorem dX9_failsNow_93 : decode cX9_failsNow 93 = .ok (.iload_n 1, 1) := by decide +kernel
theorem dX9_failsNow_94 : decode cX9_failsNow 94 = .ok (.iaload, 1) := by decide +kernel
theorem dX9_failsNow_95 : decode cX9_failsNow 95 = .ok (.bipush 10, 2) := by decide +kernel
theorem dX9_failsNow_97 : decode cX9_failsNow 97 = .ok (.if_icmp .ne 51, 3) := by decide +kernel
theorem dX9_failsNow_100 : decode cX9_failsNow 100 = .ok (.iconst 1, 1) := by decide +kernel
theorem dX9_failsNow_101 : decode cX9_failsNow 101 = .ok (.istore_n 3, 1) := by decide +kernel
theorem dX9_failsNow_102 : decode cX9_failsNow 102 = .ok (.iload_n 3, 1) := by decide +kernel
theorem dX9_failsNow_103 : decode cX9_failsNow 103 = .ok (.bipush 10, 2) := by decide +kernel
theorem dX9_failsNow_105 : decode cX9_failsNow 105 = .ok (.if_icmp .ge 33, 3) := by decide +kernel
theorem dX9_failsNow_108 : decode cX9_failsNow 108 = .ok (.aload_n 0, 1) := by decide +kernel
theorem dX9_failsNow_109 : decode cX9_failsNow 109 = .ok (.getfield 50, 3) := by decide +kernel
theorem dX9_failsNow_112 : decode cX9_failsNow 112 = .ok (.bipush 10, 2) := by decide +kernel
theorem dX9_failsNow_114 : decode cX9_failsNow 114 = .ok (.iload_n 1, 1) := by decide +kernel
theorem dX9_failsNow_115 : decode cX9_failsNow 115 = .ok (.imul, 1) := by decide +kernel
theorem dX9_failsNow_116 : decode cX9_failsNow 116 = .ok (.iload_n 3, 1) := by decide +kernel
theorem dX9_failsNow_117 : decode cX9_failsNow 117 = .ok (.iadd, 1) := by decide +kernel
theorem dX9_failsNow_118 : decode cX9_failsNow 118 = .ok (.iconst 1, 1) := by decide +kernel
theorem dX9_failsNow_119 : decode cX9_failsNow 119 = .ok (.isub, 1) := by decide +kernel
theorem dX9_failsNow_120 : decode cX9_failsNow 120 = .ok (.aload_n 0, 1) := by decide +kernel
theorem dX9_failsNow_121 : decode cX9_failsNow 121 = .ok (.getfield 50, 3) := by decide +kernel
theorem dX9_failsNow_124 : decode cX9_failsNow 124 = .ok (.bipush 10, 2) := by decide +kernel
theorem dX9_failsNow_126 : decode cX9_failsNow 126 = .ok (.iload_n 1, 1) := by decide +kernel
theorem dX9_failsNow_127 : decode cX9_failsNow 127 = .ok (.imul, 1) := by decide +kernel
theorem dX9_failsNow_128 : decode cX9_failsNow 128 = .ok (.iload_n 3, 1) := by decide +kernel
theorem dX9_failsNow_129 : decode cX9_failsNow 129 = .ok (.iadd, 1) := by decide +kernel
theorem dX9_failsNow_130 : decode cX9_failsNow 130 = .ok (.iaload, 1) := by decide +kernel
theorem dX9_failsNow_131 : decode cX9_failsNow 131 = .ok (.iastore, 1) := by decide +kernel
theorem dX9_failsNow_132 : decode cX9_failsNow 132 = .ok (.iinc 3 1, 3) := by decide +kernel
theorem dX9_failsNow_135 : decode cX9_failsNow 135 = .ok (.goto (-33), 3) := by decide +kernel
theorem dX9_failsNow_138 : decode cX9_failsNow 138 = .ok (.aload_n 0, 1) := by decide +kernel
theorem dX9_failsNow_139 : decode cX9_failsNow 139 = .ok (.getfield 53, 3) := by decide +kernel
theorem dX9_failsNow_142 : decode cX9_failsNow 142 = .ok (.iload_n 1, 1) := by decide +kernel
theorem dX9_failsNow_143 : decode cX9_failsNow 143 = .ok (.dup2, 1) := by decide +kernel
theorem dX9_failsNow_144 : decode cX9_failsNow 144 = .ok (.iaload, 1) := by decide +kernel
theorem dX9_failsNow_145 : decode cX9_failsNow 145 = .ok (.iconst 1, 1) := by decide +kernel
theorem dX9_failsNow_146 : decode cX9_failsNow 146 = .ok (.isub, 1) := by decide +kernel
theorem dX9_failsNow_147 : decode cX9_failsNow 147 = .ok (.iastore, 1) := by decide +kernel
theorem dX9_failsNow_148 : decode cX9_failsNow 148 = .ok (.aload_n 0, 1) := by decide +kernel
theorem dX9_failsNow_149 : decode cX9_failsNow 149 = .ok (.getfield 50, 3) := by decide +kernel
theorem dX9_failsNow_152 : decode cX9_failsNow 152 = .ok (.bipush 10, 2) := by decide +kernel
theorem dX9_failsNow_154 : decode cX9_failsNow 154 = .ok (.iload_n 1, 1) := by decide +kernel
theorem dX9_failsNow_155 : decode cX9_failsNow 155 = .ok (.imul, 1) := by decide +kernel
theorem dX9_failsNow_156 : decode cX9_failsNow 156 = .ok (.aload_n 0, 1) := by decide +kernel
theorem dX9_failsNow_157 : decode cX9_failsNow 157 = .ok (.getfield 53, 3) := by decide +kernel
theorem dX9_failsNow_160 : decode cX9_failsNow 160 = .ok (.iload_n 1, 1) := by decide +kernel
theorem dX9_failsNow_161 : decode cX9_failsNow 161 = .ok (.iaload, 1) := by decide +kernel
theorem dX9_failsNow_162 : decode cX9_failsNow 162 = .ok (.iadd, 1) := by decide +kernel
theorem dX9_failsNow_163 : decode cX9_failsNow 163 = .ok (.aload_n 0, 1) := by decide +kernel
theorem dX9_failsNow_164 : decode cX9_failsNow 164 = .ok (.getfield 129, 3) := by decide +kernel
theorem dX9_failsNow_167 : decode cX9_failsNow 167 = .ok (.iastore, 1) := by decide +kernel
theorem dX9_failsNow_168 : decode cX9_failsNow 168 = .ok (.aload_n 0, 1) := by decide +kernel
theorem dX9_failsNow_169 : decode cX9_failsNow 169 = .ok (.getfield 53, 3) := by decide +kernel
theorem dX9_failsNow_172 : decode cX9_failsNow 172 = .ok (.iload_n 1, 1) := by decide +kernel
theorem dX9_failsNow_173 : decode cX9_failsNow 173 = .ok (.dup2, 1) := by decide +kernel
theorem dX9_failsNow_174 : decode cX9_failsNow 174 = .ok (.iaload, 1) := by decide +kernel
theorem dX9_failsNow_175 : decode cX9_failsNow 175 = .ok (.iconst 1, 1) := by decide +kernel
theorem dX9_failsNow_176 : decode cX9_failsNow 176 = .ok (.iadd, 1) := by decide +kernel
theorem dX9_failsNow_177 : decode cX9_failsNow 177 = .ok (.iastore, 1) := by decide +kernel
theorem dX9_failsNow_178 : decode cX9_failsNow 178 = .ok (.aload_n 0, 1) := by decide +kernel
theorem dX9_failsNow_179 : decode cX9_failsNow 179 = .ok (.iload_n 1, 1) := by decide +kernel
theorem dX9_failsNow_180 : decode cX9_failsNow 180 = .ok (.iconst 5, 1) := by decide +kernel
theorem dX9_failsNow_181 : decode cX9_failsNow 181 = .ok (.invokevirtual 211, 3) := by decide +kernel
theorem dX9_failsNow_184 : decode cX9_failsNow 184 = .ok (.return_, 1) := by decide +kernel
theorem dX9_step_0 : decode cX9_step 0 = .ok (.aload_n 0, 1) := by decide +kernel
theorem dX9_step_1 : decode cX9_step 1 = .ok (.getfield 31, 3) := by decide +kernel
theorem dX9_step_4 : decode cX9_step 4 = .ok (.iload_n 1, 1) := by decide +kernel
theorem dX9_step_5 : decode cX9_step 5 = .ok (.iaload, 1) := by decide +kernel
theorem dX9_step_6 : decode cX9_step 6 = .ok (.iconst 1, 1) := by decide +kernel
theorem dX9_step_7 : decode cX9_step 7 = .ok (.if_icmp .ne 32, 3) := by decide +kernel
theorem dX9_step_10 : decode cX9_step 10 = .ok (.aload_n 0, 1) := by decide +kernel
theorem dX9_step_11 : decode cX9_step 11 = .ok (.getfield 129, 3) := by decide +kernel
theorem dX9_step_14 : decode cX9_step 14 = .ok (.aload_n 0, 1) := by decide +kernel
theorem dX9_step_15 : decode cX9_step 15 = .ok (.getfield 34, 3) := by decide +kernel
theorem dX9_step_18 : decode cX9_step 18 = .ok (.iload_n 1, 1) := by decide +kernel
theorem dX9_step_19 : decode cX9_step 19 = .ok (.iaload, 1) := by decide +kernel
theorem dX9_step_20 : decode cX9_step 20 = .ok (.isub, 1) := by decide +kernel
theorem dX9_step_21 : decode cX9_step 21 = .ok (.aload_n 0, 1) := by decide +kernel
theorem dX9_step_22 : decode cX9_step 22 = .ok (.getfield 13, 3) := by decide +kernel
theorem dX9_step_25 : decode cX9_step 25 = .ok (.iload_n 1, 1) := by decide +kernel
theorem dX9_step_26 : decode cX9_step 26 = .ok (.iaload, 1) := by decide +kernel
theorem dX9_step_27 : decode cX9_step 27 = .ok (.if_icmp .lt 12, 3) := by decide +kernel
theorem dX9_step_30 : decode cX9_step 30 = .ok (.aload_n 0, 1) := by decide +kernel
theorem dX9_step_31 : decode cX9_step 31 = .ok (.iload_n 1, 1) := by decide +kernel
theorem dX9_step_32 : decode cX9_step 32 = .ok (.iconst 2, 1) := by decide +kernel
theorem dX9_step_33 : decode cX9_step 33 = .ok (.invokevirtual 211, 3) := by decide +kernel
theorem dX9_step_36 : decode cX9_step 36 = .ok (.goto 39, 3) := by decide +kernel
theorem dX9_step_39 : decode cX9_step 39 = .ok (.aload_n 0, 1) := by decide +kernel
theorem dX9_step_40 : decode cX9_step 40 = .ok (.getfield 31, 3) := by decide +kernel
theorem dX9_step_43 : decode cX9_step 43 = .ok (.iload_n 1, 1) := by decide +kernel
theorem dX9_step_44 : decode cX9_step 44 = .ok (.iaload, 1) := by decide +kernel
theorem dX9_step_45 : decode cX9_step 45 = .ok (.iconst 3, 1) := by decide +kernel
theorem dX9_step_46 : decode cX9_step 46 = .ok (.if_icmp .ne 29, 3) := by decide +kernel
theorem dX9_step_49 : decode cX9_step 49 = .ok (.aload_n 0, 1) := by decide +kernel
theorem dX9_step_50 : decode cX9_step 50 = .ok (.getfield 129, 3) := by decide +kernel
theorem dX9_step_53 : decode cX9_step 53 = .ok (.aload_n 0, 1) := by decide +kernel
theorem dX9_step_54 : decode cX9_step 54 = .ok (.getfield 34, 3) := by decide +kernel
theorem dX9_step_57 : decode cX9_step 57 = .ok (.iload_n 1, 1) := by decide +kernel
theorem dX9_step_58 : decode cX9_step 58 = .ok (.iaload, 1) := by decide +kernel
theorem dX9_step_59 : decode cX9_step 59 = .ok (.isub, 1) := by decide +kernel
theorem dX9_step_60 : decode cX9_step 60 = .ok (.aload_n 0, 1) := by decide +kernel
theorem dX9_step_61 : decode cX9_step 61 = .ok (.getfield 16, 3) := by decide +kernel
theorem dX9_step_64 : decode cX9_step 64 = .ok (.iload_n 1, 1) := by decide +kernel
theorem dX9_step_65 : decode cX9_step 65 = .ok (.iaload, 1) := by decide +kernel
theorem dX9_step_66 : decode cX9_step 66 = .ok (.if_icmp .lt 9, 3) := by decide +kernel
theorem dX9_step_69 : decode cX9_step 69 = .ok (.aload_n 0, 1) := by decide +kernel
theorem dX9_step_70 : decode cX9_step 70 = .ok (.iload_n 1, 1) := by decide +kernel
theorem dX9_step_71 : decode cX9_step 71 = .ok (.iconst 0, 1) := by decide +kernel
theorem dX9_step_72 : decode cX9_step 72 = .ok (.invokevirtual 211, 3) := by decide +kernel
theorem dX9_step_75 : decode cX9_step 75 = .ok (.aload_n 0, 1) := by decide +kernel
theorem dX9_step_76 : decode cX9_step 76 = .ok (.getfield 31, 3) := by decide +kernel
theorem dX9_step_79 : decode cX9_step 79 = .ok (.iload_n 1, 1) := by decide +kernel
theorem dX9_step_80 : decode cX9_step 80 = .ok (.iaload, 1) := by decide +kernel
theorem dX9_step_81 : decode cX9_step 81 = .ok (.iconst 2, 1) := by decide +kernel
theorem dX9_step_82 : decode cX9_step 82 = .ok (.if_icmp .ne 63, 3) := by decide +kernel
theorem dX9_step_85 : decode cX9_step 85 = .ok (.aload_n 0, 1) := by decide +kernel
theorem dX9_step_86 : decode cX9_step 86 = .ok (.getfield 43, 3) := by decide +kernel
theorem dX9_step_89 : decode cX9_step 89 = .ok (.iload_n 1, 1) := by decide +kernel
theorem dX9_step_90 : decode cX9_step 90 = .ok (.baload, 1) := by decide +kernel
theorem dX9_step_91 : decode cX9_step 91 = .ok (.ifCond .ne 54, 3) := by decide +kernel
theorem dX9_step_94 : decode cX9_step 94 = .ok (.aload_n 0, 1) := by decide +kernel
theorem dX9_step_95 : decode cX9_step 95 = .ok (.getfield 47, 3) := by decide +kernel
theorem dX9_step_98 : decode cX9_step 98 = .ok (.iload_n 1, 1) := by decide +kernel
theorem dX9_step_99 : decode cX9_step 99 = .ok (.iaload, 1) := by decide +kernel
theorem dX9_step_100 : decode cX9_step 100 = .ok (.istore_n 2, 1) := by decide +kernel
theorem dX9_step_101 : decode cX9_step 101 = .ok (.iload_n 2, 1) := by decide +kernel
theorem dX9_step_102 : decode cX9_step 102 = .ok (.ifCond .le 43, 3) := by decide +kernel
theorem dX9_step_105 : decode cX9_step 105 = .ok (.aload_n 0, 1) := by decide +kernel
theorem dX9_step_106 : decode cX9_step 106 = .ok (.getfield 129, 3) := by decide +kernel
theorem dX9_step_109 : decode cX9_step 109 = .ok (.aload_n 0, 1) := by decide +kernel
theorem dX9_step_110 : decode cX9_step 110 = .ok (.getfield 34, 3) := by decide +kernel
theorem dX9_step_113 : decode cX9_step 113 = .ok (.iload_n 1, 1) := by decide +kernel
theorem dX9_step_114 : decode cX9_step 114 = .ok (.iaload, 1) := by decide +kernel
theorem dX9_step_115 : decode cX9_step 115 = .ok (.isub, 1) := by decide +kernel
theorem dX9_step_116 : decode cX9_step 116 = .ok (.iload_n 2, 1) := by decide +kernel
theorem dX9_step_117 : decode cX9_step 117 = .ok (.if_icmp .lt 28, 3) := by decide +kernel
theorem dX9_step_120 : decode cX9_step 120 = .ok (.aload_n 0, 1) := by decide +kernel
theorem dX9_step_121 : decode cX9_step 121 = .ok (.getfield 9, 3) := by decide +kernel
theorem dX9_step_124 : decode cX9_step 124 = .ok (.iload_n 1, 1) := by decide +kernel
theorem dX9_step_125 : decode cX9_step 125 = .ok (.iaload, 1) := by decide +kernel
theorem dX9_step_126 : decode cX9_step 126 = .ok (.iconst 1, 1) := by decide +kernel
theorem dX9_step_127 : decode cX9_step 127 = .ok (.if_icmp .ne 13, 3) := by decide +kernel
theorem dX9_step_130 : decode cX9_step 130 = .ok (.aload_n 0, 1) := by decide +kernel
theorem dX9_step_131 : decode cX9_step 131 = .ok (.getfield 43, 3) := by decide +kernel
theorem dX9_step_134 : decode cX9_step 134 = .ok (.iload_n 1, 1) := by decide +kernel
theorem dX9_step_135 : decode cX9_step 135 = .ok (.iconst 1, 1) := by decide +kernel
theorem dX9_step_136 : decode cX9_step 136 = .ok (.bastore, 1) := by decide +kernel
theorem dX9_step_137 : decode cX9_step 137 = .ok (.goto 8, 3) := by decide +kernel
theorem dX9_step_140 : decode cX9_step 140 = .ok (.aload_n 0, 1) := by decide +kernel
theorem dX9_step_141 : decode cX9_step 141 = .ok (.iload_n 1, 1) := by decide +kernel
theorem dX9_step_142 : decode cX9_step 142 = .ok (.invokevirtual 234, 3) := by decide +kernel
theorem dX9_step_145 : decode cX9_step 145 = .ok (.aload_n 0, 1) := by decide +kernel
theorem dX9_step_146 : decode cX9_step 146 = .ok (.getfield 31, 3) := by decide +kernel
theorem dX9_step_149 : decode cX9_step 149 = .ok (.iload_n 1, 1) := by decide +kernel
theorem dX9_step_150 : decode cX9_step 150 = .ok (.iaload, 1) := by decide +kernel
theorem dX9_step_151 : decode cX9_step 151 = .ok (.iconst 5, 1) := by decide +kernel
theorem dX9_step_152 : decode cX9_step 152 = .ok (.if_icmp .ne 76, 3) := by decide +kernel
theorem dX9_step_155 : decode cX9_step 155 = .ok (.aload_n 0, 1) := by decide +kernel
theorem dX9_step_156 : decode cX9_step 156 = .ok (.getfield 129, 3) := by decide +kernel
theorem dX9_step_159 : decode cX9_step 159 = .ok (.aload_n 0, 1) := by decide +kernel
theorem dX9_step_160 : decode cX9_step 160 = .ok (.getfield 34, 3) := by decide +kernel
theorem dX9_step_163 : decode cX9_step 163 = .ok (.iload_n 1, 1) := by decide +kernel
theorem dX9_step_164 : decode cX9_step 164 = .ok (.iaload, 1) := by decide +kernel
theorem dX9_step_165 : decode cX9_step 165 = .ok (.isub, 1) := by decide +kernel
theorem dX9_step_166 : decode cX9_step 166 = .ok (.aload_n 0, 1) := by decide +kernel
theorem dX9_step_167 : decode cX9_step 167 = .ok (.getfield 22, 3) := by decide +kernel
theorem dX9_step_170 : decode cX9_step 170 = .ok (.iload_n 1, 1) := by decide +kernel
theorem dX9_step_171 : decode cX9_step 171 = .ok (.iaload, 1) := by decide +kernel
theorem dX9_step_172 : decode cX9_step 172 = .ok (.if_icmp .lt 56, 3) := by decide +kernel
theorem dX9_step_175 : decode cX9_step 175 = .ok (.aload_n 0, 1) := by decide +kernel
theorem dX9_step_176 : decode cX9_step 176 = .ok (.getfield 40, 3) := by decide +kernel
theorem dX9_step_179 : decode cX9_step 179 = .ok (.iload_n 1, 1) := by decide +kernel
theorem dX9_step_180 : decode cX9_step 180 = .ok (.dup2, 1) := by decide +kernel
theorem dX9_step_181 : decode cX9_step 181 = .ok (.iaload, 1) := by decide +kernel
theorem dX9_step_182 : decode cX9_step 182 = .ok (.aload_n 0, 1) := by decide +kernel
theorem dX9_step_183 : decode cX9_step 183 = .ok (.iload_n 1, 1) := by decide +kernel
theorem dX9_step_184 : decode cX9_step 184 = .ok (.invokevirtual 237, 3) := by decide +kernel
theorem dX9_step_187 : decode cX9_step 187 = .ok (.ifCond .eq 7, 3) := by decide +kernel
theorem dX9_step_190 : decode cX9_step 190 = .ok (.iconst 0, 1) := by decide +kernel
theorem dX9_step_191 : decode cX9_step 191 = .ok (.goto 4, 3) := by decide +kernel
theorem dX9_step_194 : decode cX9_step 194 = .ok (.iconst 1, 1) := by decide +kernel
theorem dX9_step_195 : decode cX9_step 195 = .ok (.iadd, 1) := by decide +kernel
theorem dX9_step_196 : decode cX9_step 196 = .ok (.iastore, 1) := by decide +kernel
theorem dX9_step_197 : decode cX9_step 197 = .ok (.aload_n 0, 1) := by decide +kernel
theorem dX9_step_198 : decode cX9_step 198 = .ok (.iload_n 1, 1) := by decide +kernel
theorem dX9_step_199 : decode cX9_step 199 = .ok (.aload_n 0, 1) := by decide +kernel
theorem dX9_step_200 : decode cX9_step 200 = .ok (.iload_n 1, 1) := by decide +kernel
theorem dX9_step_201 : decode cX9_step 201 = .ok (.invokevirtual 237, 3) := by decide +kernel
theorem dX9_step_204 : decode cX9_step 204 = .ok (.ifCond .ne 7, 3) := by decide +kernel
theorem dX9_step_207 : decode cX9_step 207 = .ok (.iconst 4, 1) := by decide +kernel
theorem dX9_step_208 : decode cX9_step 208 = .ok (.goto 17, 3) := by decide +kernel
theorem dX9_step_211 : decode cX9_step 211 = .ok (.aload_n 0, 1) := by decide +kernel
theorem dX9_step_212 : decode cX9_step 212 = .ok (.getfield 13, 3) := by decide +kernel
theorem dX9_step_215 : decode cX9_step 215 = .ok (.iload_n 1, 1) := by decide +kernel
theorem dX9_step_216 : decode cX9_step 216 = .ok (.iaload, 1) := by decide +kernel
theorem dX9_step_217 : decode cX9_step 217 = .ok (.ifCond .ne 7, 3) := by decide +kernel
theorem dX9_step_220 : decode cX9_step 220 = .ok (.iconst 2, 1) := by decide +kernel
theorem dX9_step_221 : decode cX9_step 221 = .ok (.goto 4, 3) := by decide +kernel
theorem dX9_step_224 : decode cX9_step 224 = .ok (.iconst 1, 1) := by decide +kernel
theorem dX9_step_225 : decode cX9_step 225 = .ok (.invokevirtual 211, 3) := by decide +kernel
theorem dX9_step_228 : decode cX9_step 228 = .ok (.return_, 1) := by decide +kernel
def wq_m_beginOne : List Cond := [.code yX9_beginOne cX9_beginOne 2 none, .fieldLink RX9 74 "ServiceTreeModel" "hasBegun" "[Z", .fieldLink RX9 71 "ServiceTreeModel" "job" "[I", .fieldLink RX9 31 "ServiceTreeModel" "state" "[I", .fieldLink RX9 16 "ServiceTreeModel" "stop" "[I", .fieldLink RX9 13 "ServiceTreeModel" "start" "[I", .methodLink RX9 147 yX9_rests, .static yX9_rests, .initialized RX9, .methodLink RX9 211 yX9_to, .instanceMethod yX9_to, .selects RX9 yX9_to yX9_to, .methodLink RX9 231 yX9_hasNeeds, .instanceMethod yX9_hasNeeds, .selects RX9 yX9_hasNeeds yX9_hasNeeds] ++ (wsX90 ++ (wq_m_rests ++ (wq_m_to ++ (wq_m_hasNeeds))))
theorem in_m_beginOne_X9 : ∀ w ∈ wsX90, w ∈ wq_m_beginOne := fun _ h => List.mem_append_right _ (List.mem_append_left _ (h))
set_option maxRecDepth 20000 in
theorem wi_m_beginOne : ∀ w ∈ wq_m_beginOne, w ∈ lw_tbl := List.forall_mem_append.mpr ⟨(by decide +kernel), List.forall_mem_append.mpr ⟨inKX9, List.forall_mem_append.mpr ⟨wi_m_rests, List.forall_mem_append.mpr ⟨wi_m_to, wi_m_hasNeeds⟩⟩⟩⟩
set_option maxRecDepth 20000 in
theorem wg_m_beginOne : GoodIn wq_m_beginOne wq_m_beginOne := goodIn_sub (fun _ h => h) (by decide +kernel)
set_option maxRecDepth 20000 in
theorem wc_m_beginOne_m_rests_147 : GoodIn wq_m_beginOne (va_wsS RX9 147 yX9_rests wq_m_rests) := goodIn_app (goodIn_of _ (by decide +kernel)) (fun w h => ⟨List.mem_append_right _ (List.mem_append_right _ (List.mem_append_left _ (h))), (wg_m_rests w h).2⟩)
set_option maxRecDepth 20000 in
theorem wc_m_beginOne_m_to_211 : GoodIn wq_m_beginOne (wsV RX9 211 RX9 yX9_to wq_m_to) := goodIn_app (goodIn_of _ (by decide +kernel)) (fun w h => ⟨List.mem_append_right _ (List.mem_append_right _ (List.mem_append_right _ (List.mem_append_left _ (h)))), (wg_m_to w h).2⟩)
set_option maxRecDepth 20000 in
theorem wc_m_beginOne_m_hasNeeds_231 : GoodIn wq_m_beginOne (wsV RX9 231 RX9 yX9_hasNeeds wq_m_hasNeeds) := goodIn_app (goodIn_of _ (by decide +kernel)) (fun w h => ⟨List.mem_append_right _ (List.mem_append_right _ (List.mem_append_right _ (List.mem_append_right _ (h)))), (wg_m_hasNeeds w h).2⟩)
def rm_m_beginOne : Room := { frames := 2, cells := 0, slots := 0, locals := 46 }
set_option maxHeartbeats 4000000 in
set_option maxRecDepth 100000 in
theorem c_m_beginOne (l : Launch) (dC : Nat → ClassId) (dI : Nat → Nat → Nat) (h : Nat) (a : Nat → Nat) (k : Nat → ClassId) (F : Nat → Nat → Int32) (V : Nat → Int32) (n b : Nat) (sv : Nat) (sz : Nat) (hI0 : InvM n b F V) (hb0 : b + 2 < 2147483648) (hp0 : sv < n) : Met l yX9_beginOne wq_m_beginOne rm_m_beginOne (va_Pc [.ref h, .int (nI sv)] (fun U => U.heap.size = sz ∧ va_P (dC, dI) vwCl (mW h a k F V) U.heap ∧ va_K (dC, dI) vwCl (mT k) U ∧ va_D (fun _ => True) (mW h a k F V))) (va_Qv (fun (u : (Nat → Nat → Int32) × (Nat → Int32)) => StM n (b + 2) F V u.1 u.2 ∧ (∀ j : Nat, j ∉ ([7, 8, 9, 11, 12, 25, 26, 42, 43, 44] : List Nat) → u.1 j = F j) ∧ (∀ j : Nat, j ∉ ([45] : List Nat) → u.2 j = V j) ∧ (u.1 26 = upd (F 26) (nI sv).toNatClampNeg (vp_nar .boolean 1))) (fun (u : (Nat → Nat → Int32) × (Nat → Int32)) (t : State) => va_P (dC, dI) vwCl (mW h a k u.1 u.2) t.heap ∧ va_D (va_A (mW h a k F V) sz) (mW h a k u.1 u.2)) (va_A (mW h a k F V) sz)) 0 0 (va_A (mW h a k F V) sz) := by
  have hn : n ≤ 40 := hI0.1
  have hI : StM n b F V F V := StM.rf hI0
  have hU : ∀ j : Nat, j ∉ ([7, 8, 9, 11, 12, 25, 26, 42, 43, 44] : List Nat) → F j = F j := fun _ _ => rfl
  have hV : ∀ j : Nat, j ∉ ([45] : List Nat) → V j = V j := fun _ _ => rfl
  refine Met.ofW (cc := cX9_beginOne) (maxL := 2) (ret := none) (by decide) rfl ?_
  intro p e s m args below meth c s₁ B hml hv
  obtain ⟨rfl, hsz, hP, hK, hD0⟩ := hv
  have hx := B.exec
  have hb := B.bytes
  have hr := B.returns
  have hts := atoms_spec (ws := wq_m_beginOne) B.pre
  have hown : s.vm.findClass RX9 = some m.cls := findClass_of_methodNamed B.named
  have hlocks := B.notSynchronized
  subst hsz
  have hD := hD0.self (sz := s.heap.size)
  generalize hAe : va_A (mW h a k F V) s.heap.size = A at hD ⊢
  have hA : ∀ q : Nat, s.heap.size ≤ q → A q := fun q h => by rw [← hAe]; exact Or.inr h
  have hS : va_S A s.heap s.heap [] := va_S.rf
  have hl := lv_entry ([.ref h, .int (nI sv)]) (n := 2) (Nat.le_of_ble_eq_true rfl)
  rw [lg_entry_eq]
  generalize (lg_sl ([.ref h, .int (nI sv)]) ++ List.replicate (2 - (lg_sl ([.ref h, .int (nI sv)])).length) Slot.unset).toArray = ls at hl ⊢
  have hl : lv_has ls 2 [(0, .ref h), (1, .int (nI sv))] := hl
  have t26 : F 26 = F 26 := rfl
  refine lv_aload_n hx hb dX9_beginOne_0 rfl (lv_at hl 0 rfl) ?_
  refine va_get (D := (dC, dI)) (ci := 10) (v := .ref (a 26)) (C := RX9) (T := TX9) (N := 46) hx hb hts in_m_beginOne_X9 hown hK hP 0 rfl rfl 26 (by decide) (hts (.fieldLink RX9 74 "ServiceTreeModel" "hasBegun" "[Z") (by decide +kernel)) (fun _ h9 => h9) rfl dX9_beginOne_1 ?_
  refine lv_iload_n hx hb dX9_beginOne_4 rfl (lv_at hl 1 rfl) ?_
  refine lv_iconst (v := 1) hx hb dX9_beginOne_5 (by decide) ?_
  refine va_zast (n := 40) (f := F 26) hx hb hK hP hD hS 22 21 rfl rfl (vp_in_nI (n := sv) (by omega) (by decide)) dX9_beginOne_6 (fun H locs hP hD hS => ?_)
  rw [mW_set_26] at hP hD
  obtain ⟨F1, eF1⟩ : ∃ f9 : Nat → Nat → Int32, f9 = va_up F 26 (upd (F 26) (nI sv).toNatClampNeg (vp_nar .boolean 1)) := ⟨_, rfl⟩
  rw [← eF1] at hP hD
  replace hI : StM n (b) F V F1 V := ⟨by rw [eF1]; exact hI.1.setF (by decide), trivial⟩
  replace hU : ∀ j : Nat, j ∉ ([7, 8, 9, 11, 12, 25, 26, 42, 43, 44] : List Nat) → F1 j = F j := by rw [eF1]; exact mw_up (by decide) hU
  replace t26 : F1 26 = upd (F 26) (nI sv).toNatClampNeg (vp_nar .boolean 1) := by rw [eF1, va_up_self, t26]
  refine lv_aload_n hx hb dX9_beginOne_7 rfl (lv_at hl 0 rfl) ?_
  refine va_get (D := (dC, dI)) (ci := 10) (v := .ref (a 25)) (C := RX9) (T := TX9) (N := 46) hx hb hts in_m_beginOne_X9 hown hK hP 0 rfl rfl 25 (by decide) (hts (.fieldLink RX9 71 "ServiceTreeModel" "job" "[I") (by decide +kernel)) (fun _ h9 => h9) rfl dX9_beginOne_8 ?_
  refine lv_iload_n hx hb dX9_beginOne_11 rfl (lv_at hl 1 rfl) ?_
  refine va_iald (n := 40) (f := F1 25) hx hb hK hP 21 20 rfl rfl (vp_in_nI (n := sv) (by omega) (by decide)) dX9_beginOne_12 ?_
  refine lv_topi (fun x2 ex2 => ?_)
  refine lv_iconst (v := 1) hx hb dX9_beginOne_13 (by decide) ?_
  refine lv_icmp_ne (tgt := 57) hx hb dX9_beginOne_14 (by decide) (fun c3 => ?_) (fun c3 => ?_)
  · refine lv_aload_n hx hb dX9_beginOne_57 rfl (lv_at hl 0 rfl) ?_
    refine va_get (D := (dC, dI)) (ci := 10) (v := .ref (a 7)) (C := RX9) (T := TX9) (N := 46) hx hb hts in_m_beginOne_X9 hown hK hP 0 rfl rfl 7 (by decide) (hts (.fieldLink RX9 31 "ServiceTreeModel" "state" "[I") (by decide +kernel)) (fun _ h9 => h9) rfl dX9_beginOne_58 ?_
    refine lv_iload_n hx hb dX9_beginOne_61 rfl (lv_at hl 1 rfl) ?_
    refine va_iald (n := 40) (f := F1 7) hx hb hK hP 8 7 rfl rfl (vp_in_nI (n := sv) (by omega) (by decide)) dX9_beginOne_62 ?_
    refine lv_topi (fun x4 ex4 => ?_)
    have hFc := mw_free hD hS hA
    refine va_calli (va_runS (As := [.int x4]) (rest := []) ⟨hx, hb, hml, hown, hts⟩ (c_m_rests l dC dI h a k F1 V n (b) x4 H.size hI.1 (by omega) ) (va_cwS 1 hts wc_m_beginOne_m_rests_147 rfl rfl rfl (by decide +kernel) ⟨Nat.le_of_ble_eq_true rfl, Nat.le_of_ble_eq_true rfl⟩) ⟨fun a9 U g mk q => by obtain ⟨q0, q1, qP, qK, qD⟩ := q; exact ⟨q0, q1, qP, va_K.moved (u := U) (U := U.calling g mk a9) (Vm.Alike.refl U.vm) qK, qD⟩, fun U hU hW => ⟨rfl, by rw [hU], by rw [hU]; exact hP, va_K.moved hW.alike hK, hD.weaken (fun _ _ _ _ => trivial)⟩⟩ rfl rfl hl.1 rfl (lv_room (Nat.le_of_ble_eq_true rfl)) dX9_beginOne_63 ⟨Nat.le_of_ble_eq_true rfl, Nat.le_of_ble_eq_true rfl⟩) hS (fun q _ h => hFc q h) hFc (fun r5 u t H1 locs ht hvm hw hB hz1 hk1 hS => ?_)
    obtain ⟨F6, V7⟩ := u
    replace hP := hB.1
    rw [ht] at hP
    replace hD : va_D A (mW h a k F6 V7) := hB.2.weaken (fun _ q _ h9 => hFc q.1 h9)
    clear hB
    generalize H1 = H at hP hS ⊢
    replace hP : va_P (dC, dI) vwCl (mW h a k F6 V7) H := hP
    obtain ⟨hwF, hwV, hw⟩ : F6 = F1 ∧ V7 = V ∧ _ := hw
    rw [hwF, hwV] at hP hD
    refine lv_if_eq (tgt := 79) hx hb dX9_beginOne_66 (by decide) (fun c8 => ?_) (fun c8 => ?_)
    · refine lv_aload_n hx hb dX9_beginOne_79 rfl (lv_at hl 0 rfl) ?_
      refine va_get (D := (dC, dI)) (ci := 10) (v := .ref (a 7)) (C := RX9) (T := TX9) (N := 46) hx hb hts in_m_beginOne_X9 hown hK hP 0 rfl rfl 7 (by decide) (hts (.fieldLink RX9 31 "ServiceTreeModel" "state" "[I") (by decide +kernel)) (fun _ h9 => h9) rfl dX9_beginOne_80 ?_
      refine lv_iload_n hx hb dX9_beginOne_83 rfl (lv_at hl 1 rfl) ?_
      refine va_iald (n := 40) (f := F1 7) hx hb hK hP 8 7 rfl rfl (vp_in_nI (n := sv) (by omega) (by decide)) dX9_beginOne_84 ?_
      refine p1_topr (v := .int x4) (congrArg Value.int ex4.symm) ?_
      refine lv_iconst (v := 3) hx hb dX9_beginOne_85 (by decide) ?_
      refine lv_icmp_eq (tgt := 118) hx hb dX9_beginOne_86 (by decide) (fun c10 => ?_) (fun c10 => ?_)
      · exact W.vret hx hb hr (fun t ht hW => ⟨⟨(F1, V), rfl, ⟨hI.mono (by omega), hU, hV, t26⟩, by rw [ht]; exact hP, hD⟩, hS.F ht⟩) hS.2.2 dX9_beginOne_118
      · refine lv_aload_n hx hb dX9_beginOne_89 rfl (lv_at hl 0 rfl) ?_
        refine lv_iload_n hx hb dX9_beginOne_90 rfl (lv_at hl 1 rfl) ?_
        refine lv_aload_n hx hb dX9_beginOne_91 rfl (lv_at hl 0 rfl) ?_
        refine va_get (D := (dC, dI)) (ci := 10) (v := .ref (a 2)) (C := RX9) (T := TX9) (N := 46) hx hb hts in_m_beginOne_X9 hown hK hP 0 rfl rfl 2 (by decide) (hts (.fieldLink RX9 16 "ServiceTreeModel" "stop" "[I") (by decide +kernel)) (fun _ h9 => h9) rfl dX9_beginOne_92 ?_
        refine lv_iload_n hx hb dX9_beginOne_95 rfl (lv_at hl 1 rfl) ?_
        refine va_iald (n := 40) (f := F1 2) hx hb hK hP 3 2 rfl rfl (vp_in_nI (n := sv) (by omega) (by decide)) dX9_beginOne_96 ?_
        refine lv_topi (fun x11 ex11 => ?_)
        refine lv_if_eq (tgt := 110) hx hb dX9_beginOne_97 (by decide) (fun c12 => ?_) (fun c12 => ?_)
        · refine lv_iconst (v := 0) hx hb dX9_beginOne_110 (by decide) ?_
          refine lv_goto (tgt := 115) hx hb dX9_beginOne_111 (by decide) ?_
          have hFc := mw_free hD hS hA
          refine va_callv (va_runV (As := [.int (nI sv), .int 0]) (rest := []) ⟨hx, hb, hml, hown, hts⟩ (c_m_to l dC dI h a k F1 V n (b) sv 0 H.size hI.1 (by omega) (by omega)) (cwV 2 hts wc_m_beginOne_m_to_211 rfl rfl rfl (by decide +kernel) ⟨Nat.le_of_ble_eq_true rfl, Nat.le_of_ble_eq_true rfl⟩) ⟨fun a9 U g mk q => by obtain ⟨q0, q1, qP, qK, qD⟩ := q; exact ⟨q0, q1, qP, va_K.moved (u := U) (U := U.calling g mk a9) (Vm.Alike.refl U.vm) qK, qD⟩, va_recv hK hP (ci := 10) (q0 := 0) rfl rfl, fun U hU hW => ⟨rfl, by rw [hU], by rw [hU]; exact hP, va_K.moved hW.alike hK, hD.weaken (fun _ _ _ _ => trivial)⟩⟩ rfl rfl hl.1 rfl (lv_room (Nat.le_of_ble_eq_true rfl)) dX9_beginOne_115 ⟨Nat.le_of_ble_eq_true rfl, Nat.le_of_ble_eq_true rfl⟩) hS (fun q _ h => hFc q h) hFc (fun u t H1 locs ht hvm hw hB hz1 hk1 hS => ?_)
          obtain ⟨F14, V15⟩ := u
          replace hP := hB.1
          rw [ht] at hP
          replace hD : va_D A (mW h a k F14 V15) := hB.2.weaken (fun _ q _ h9 => hFc q.1 h9)
          clear hB
          generalize H1 = H at hP hS ⊢
          replace hP : va_P (dC, dI) vwCl (mW h a k F14 V15) H := hP
          obtain ⟨hwI, hwU, hwV, hw⟩ := hw
          replace hU : ∀ j : Nat, j ∉ ([7, 8, 9, 11, 12, 25, 26, 42, 43, 44] : List Nat) → F14 j = F j := mw_tr (by decide) hwU hU
          replace hV : ∀ j : Nat, j ∉ ([45] : List Nat) → V15 j = V j := mw_tr (by decide) hwV hV
          replace hI : StM n (b + 2) F V F14 V15 := hI.trans hwI
          replace t26 : F14 26 = upd (F 26) (nI sv).toNatClampNeg (vp_nar .boolean 1) := (hwU 26 (by decide)).trans t26
          exact W.vret hx hb hr (fun t ht hW => ⟨⟨(F14, V15), rfl, ⟨hI.mono (by omega), hU, hV, t26⟩, by rw [ht]; exact hP, hD⟩, hS.F ht⟩) hS.2.2 dX9_beginOne_118
        · refine lv_aload_n hx hb dX9_beginOne_100 rfl (lv_at hl 0 rfl) ?_
          refine va_get (D := (dC, dI)) (ci := 10) (v := .ref (a 7)) (C := RX9) (T := TX9) (N := 46) hx hb hts in_m_beginOne_X9 hown hK hP 0 rfl rfl 7 (by decide) (hts (.fieldLink RX9 31 "ServiceTreeModel" "state" "[I") (by decide +kernel)) (fun _ h9 => h9) rfl dX9_beginOne_101 ?_
          refine lv_iload_n hx hb dX9_beginOne_104 rfl (lv_at hl 1 rfl) ?_
          refine va_iald (n := 40) (f := F1 7) hx hb hK hP 8 7 rfl rfl (vp_in_nI (n := sv) (by omega) (by decide)) dX9_beginOne_105 ?_
          refine p1_topr (v := .int x4) (congrArg Value.int ex4.symm) ?_
          refine lv_iconst (v := 5) hx hb dX9_beginOne_106 (by decide) ?_
          refine lv_icmp_ne (tgt := 114) hx hb dX9_beginOne_107 (by decide) (fun c17 => ?_) (fun c17 => ?_)
          · refine lv_iconst (v := 3) hx hb dX9_beginOne_114 (by decide) ?_
            have hFc := mw_free hD hS hA
            refine va_callv (va_runV (As := [.int (nI sv), .int 3]) (rest := []) ⟨hx, hb, hml, hown, hts⟩ (c_m_to l dC dI h a k F1 V n (b) sv 3 H.size hI.1 (by omega) (by omega)) (cwV 2 hts wc_m_beginOne_m_to_211 rfl rfl rfl (by decide +kernel) ⟨Nat.le_of_ble_eq_true rfl, Nat.le_of_ble_eq_true rfl⟩) ⟨fun a9 U g mk q => by obtain ⟨q0, q1, qP, qK, qD⟩ := q; exact ⟨q0, q1, qP, va_K.moved (u := U) (U := U.calling g mk a9) (Vm.Alike.refl U.vm) qK, qD⟩, va_recv hK hP (ci := 10) (q0 := 0) rfl rfl, fun U hU hW => ⟨rfl, by rw [hU], by rw [hU]; exact hP, va_K.moved hW.alike hK, hD.weaken (fun _ _ _ _ => trivial)⟩⟩ rfl rfl hl.1 rfl (lv_room (Nat.le_of_ble_eq_true rfl)) dX9_beginOne_115 ⟨Nat.le_of_ble_eq_true rfl, Nat.le_of_ble_eq_true rfl⟩) hS (fun q _ h => hFc q h) hFc (fun u t H1 locs ht hvm hw hB hz1 hk1 hS => ?_)
            obtain ⟨F19, V20⟩ := u
            replace hP := hB.1
            rw [ht] at hP
            replace hD : va_D A (mW h a k F19 V20) := hB.2.weaken (fun _ q _ h9 => hFc q.1 h9)
            clear hB
            generalize H1 = H at hP hS ⊢
            replace hP : va_P (dC, dI) vwCl (mW h a k F19 V20) H := hP
            obtain ⟨hwI, hwU, hwV, hw⟩ := hw
            replace hU : ∀ j : Nat, j ∉ ([7, 8, 9, 11, 12, 25, 26, 42, 43, 44] : List Nat) → F19 j = F j := mw_tr (by decide) hwU hU
            replace hV : ∀ j : Nat, j ∉ ([45] : List Nat) → V20 j = V j := mw_tr (by decide) hwV hV
            replace hI : StM n (b + 2) F V F19 V20 := hI.trans hwI
            replace t26 : F19 26 = upd (F 26) (nI sv).toNatClampNeg (vp_nar .boolean 1) := (hwU 26 (by decide)).trans t26
            exact W.vret hx hb hr (fun t ht hW => ⟨⟨(F19, V20), rfl, ⟨hI.mono (by omega), hU, hV, t26⟩, by rw [ht]; exact hP, hD⟩, hS.F ht⟩) hS.2.2 dX9_beginOne_118
          · refine lv_iconst (v := 0) hx hb dX9_beginOne_110 (by decide) ?_
            refine lv_goto (tgt := 115) hx hb dX9_beginOne_111 (by decide) ?_
            have hFc := mw_free hD hS hA
            refine va_callv (va_runV (As := [.int (nI sv), .int 0]) (rest := []) ⟨hx, hb, hml, hown, hts⟩ (c_m_to l dC dI h a k F1 V n (b) sv 0 H.size hI.1 (by omega) (by omega)) (cwV 2 hts wc_m_beginOne_m_to_211 rfl rfl rfl (by decide +kernel) ⟨Nat.le_of_ble_eq_true rfl, Nat.le_of_ble_eq_true rfl⟩) ⟨fun a9 U g mk q => by obtain ⟨q0, q1, qP, qK, qD⟩ := q; exact ⟨q0, q1, qP, va_K.moved (u := U) (U := U.calling g mk a9) (Vm.Alike.refl U.vm) qK, qD⟩, va_recv hK hP (ci := 10) (q0 := 0) rfl rfl, fun U hU hW => ⟨rfl, by rw [hU], by rw [hU]; exact hP, va_K.moved hW.alike hK, hD.weaken (fun _ _ _ _ => trivial)⟩⟩ rfl rfl hl.1 rfl (lv_room (Nat.le_of_ble_eq_true rfl)) dX9_beginOne_115 ⟨Nat.le_of_ble_eq_true rfl, Nat.le_of_ble_eq_true rfl⟩) hS (fun q _ h => hFc q h) hFc (fun u t H1 locs ht hvm hw hB hz1 hk1 hS => ?_)
            obtain ⟨F22, V23⟩ := u
            replace hP := hB.1
            rw [ht] at hP
            replace hD : va_D A (mW h a k F22 V23) := hB.2.weaken (fun _ q _ h9 => hFc q.1 h9)
            clear hB
            generalize H1 = H at hP hS ⊢
            replace hP : va_P (dC, dI) vwCl (mW h a k F22 V23) H := hP
            obtain ⟨hwI, hwU, hwV, hw⟩ := hw
            replace hU : ∀ j : Nat, j ∉ ([7, 8, 9, 11, 12, 25, 26, 42, 43, 44] : List Nat) → F22 j = F j := mw_tr (by decide) hwU hU
            replace hV : ∀ j : Nat, j ∉ ([45] : List Nat) → V23 j = V j := mw_tr (by decide) hwV hV
            replace hI : StM n (b + 2) F V F22 V23 := hI.trans hwI
            replace t26 : F22 26 = upd (F 26) (nI sv).toNatClampNeg (vp_nar .boolean 1) := (hwU 26 (by decide)).trans t26
            exact W.vret hx hb hr (fun t ht hW => ⟨⟨(F22, V23), rfl, ⟨hI.mono (by omega), hU, hV, t26⟩, by rw [ht]; exact hP, hD⟩, hS.F ht⟩) hS.2.2 dX9_beginOne_118
    · refine lv_aload_n hx hb dX9_beginOne_69 rfl (lv_at hl 0 rfl) ?_
      refine va_get (D := (dC, dI)) (ci := 10) (v := .ref (a 25)) (C := RX9) (T := TX9) (N := 46) hx hb hts in_m_beginOne_X9 hown hK hP 0 rfl rfl 25 (by decide) (hts (.fieldLink RX9 71 "ServiceTreeModel" "job" "[I") (by decide +kernel)) (fun _ h9 => h9) rfl dX9_beginOne_70 ?_
      refine lv_iload_n hx hb dX9_beginOne_73 rfl (lv_at hl 1 rfl) ?_
      refine lv_iconst (v := 0) hx hb dX9_beginOne_74 (by decide) ?_
      refine va_iast (n := 40) (f := F1 25) hx hb hK hP hD hS 21 20 rfl rfl (vp_in_nI (n := sv) (by omega) (by decide)) dX9_beginOne_75 (fun H locs hP hD hS => ?_)
      rw [mW_set_25] at hP hD
      obtain ⟨F24, eF24⟩ : ∃ f9 : Nat → Nat → Int32, f9 = va_up F1 25 (upd (F1 25) (nI sv).toNatClampNeg 0) := ⟨_, rfl⟩
      rw [← eF24] at hP hD
      replace hI : StM n (b) F V F24 V := ⟨by rw [eF24]; exact hI.1.setF (by decide), trivial⟩
      replace hU : ∀ j : Nat, j ∉ ([7, 8, 9, 11, 12, 25, 26, 42, 43, 44] : List Nat) → F24 j = F j := by rw [eF24]; exact mw_up (by decide) hU
      replace t26 : F24 26 = upd (F 26) (nI sv).toNatClampNeg (vp_nar .boolean 1) := by rw [eF24]; exact (va_up_ne _ _ (by decide)).trans t26
      refine lv_goto (tgt := 118) hx hb dX9_beginOne_76 (by decide) ?_
      exact W.vret hx hb hr (fun t ht hW => ⟨⟨(F24, V), rfl, ⟨hI.mono (by omega), hU, hV, t26⟩, by rw [ht]; exact hP, hD⟩, hS.F ht⟩) hS.2.2 dX9_beginOne_118
  · refine lv_aload_n hx hb dX9_beginOne_17 rfl (lv_at hl 0 rfl) ?_
    refine lv_iload_n hx hb dX9_beginOne_18 rfl (lv_at hl 1 rfl) ?_
    have hFc := mw_free hD hS hA
    refine va_calli (va_runV (As := [.int (nI sv)]) (rest := []) ⟨hx, hb, hml, hown, hts⟩ (c_m_hasNeeds l dC dI h a k F1 V n (b) sv H.size hI.1 (by omega) (by omega)) (cwV 1 hts wc_m_beginOne_m_hasNeeds_231 rfl rfl rfl (by decide +kernel) ⟨Nat.le_of_ble_eq_true rfl, Nat.le_of_ble_eq_true rfl⟩) ⟨fun a9 U g mk q => by obtain ⟨q0, q1, qP, qK, qD⟩ := q; exact ⟨q0, q1, qP, va_K.moved (u := U) (U := U.calling g mk a9) (Vm.Alike.refl U.vm) qK, qD⟩, va_recv hK hP (ci := 10) (q0 := 0) rfl rfl, fun U hU hW => ⟨rfl, by rw [hU], by rw [hU]; exact hP, va_K.moved hW.alike hK, hD.weaken (fun _ _ _ _ => trivial)⟩⟩ rfl rfl hl.1 rfl (lv_room (Nat.le_of_ble_eq_true rfl)) dX9_beginOne_19 ⟨Nat.le_of_ble_eq_true rfl, Nat.le_of_ble_eq_true rfl⟩) hS (fun q _ h => hFc q h) hFc (fun r25 u t H1 locs ht hvm hw hB hz1 hk1 hS => ?_)
    obtain ⟨F26, V27⟩ := u
    replace hP := hB.1
    rw [ht] at hP
    replace hD : va_D A (mW h a k F26 V27) := hB.2.weaken (fun _ q _ h9 => hFc q.1 h9)
    clear hB
    generalize H1 = H at hP hS ⊢
    replace hP : va_P (dC, dI) vwCl (mW h a k F26 V27) H := hP
    obtain ⟨hwF, hwV, hw⟩ : F26 = F1 ∧ V27 = V ∧ _ := hw
    rw [hwF, hwV] at hP hD
    have br25 := hw
    refine lv_if_ne (tgt := 35) hx hb dX9_beginOne_22 (by decide) (fun c28 => ?_) (fun c28 => ?_)
    · refine lv_aload_n hx hb dX9_beginOne_35 rfl (lv_at hl 0 rfl) ?_
      refine lv_iload_n hx hb dX9_beginOne_36 rfl (lv_at hl 1 rfl) ?_
      refine lv_aload_n hx hb dX9_beginOne_37 rfl (lv_at hl 0 rfl) ?_
      refine va_get (D := (dC, dI)) (ci := 10) (v := .ref (a 1)) (C := RX9) (T := TX9) (N := 46) hx hb hts in_m_beginOne_X9 hown hK hP 0 rfl rfl 1 (by decide) (hts (.fieldLink RX9 13 "ServiceTreeModel" "start" "[I") (by decide +kernel)) (fun _ h9 => h9) rfl dX9_beginOne_38 ?_
      refine lv_iload_n hx hb dX9_beginOne_41 rfl (lv_at hl 1 rfl) ?_
      refine va_iald (n := 40) (f := F1 1) hx hb hK hP 2 1 rfl rfl (vp_in_nI (n := sv) (by omega) (by decide)) dX9_beginOne_42 ?_
      refine lv_topi (fun x29 ex29 => ?_)
      refine lv_if_ne (tgt := 50) hx hb dX9_beginOne_43 (by decide) (fun c30 => ?_) (fun c30 => ?_)
      · refine lv_iconst (v := 1) hx hb dX9_beginOne_50 (by decide) ?_
        have hFc := mw_free hD hS hA
        refine va_callv (va_runV (As := [.int (nI sv), .int 1]) (rest := []) ⟨hx, hb, hml, hown, hts⟩ (c_m_to l dC dI h a k F1 V n (b) sv 1 H.size hI.1 (by omega) (by omega)) (cwV 2 hts wc_m_beginOne_m_to_211 rfl rfl rfl (by decide +kernel) ⟨Nat.le_of_ble_eq_true rfl, Nat.le_of_ble_eq_true rfl⟩) ⟨fun a9 U g mk q => by obtain ⟨q0, q1, qP, qK, qD⟩ := q; exact ⟨q0, q1, qP, va_K.moved (u := U) (U := U.calling g mk a9) (Vm.Alike.refl U.vm) qK, qD⟩, va_recv hK hP (ci := 10) (q0 := 0) rfl rfl, fun U hU hW => ⟨rfl, by rw [hU], by rw [hU]; exact hP, va_K.moved hW.alike hK, hD.weaken (fun _ _ _ _ => trivial)⟩⟩ rfl rfl hl.1 rfl (lv_room (Nat.le_of_ble_eq_true rfl)) dX9_beginOne_51 ⟨Nat.le_of_ble_eq_true rfl, Nat.le_of_ble_eq_true rfl⟩) hS (fun q _ h => hFc q h) hFc (fun u t H1 locs ht hvm hw hB hz1 hk1 hS => ?_)
        obtain ⟨F32, V33⟩ := u
        replace hP := hB.1
        rw [ht] at hP
        replace hD : va_D A (mW h a k F32 V33) := hB.2.weaken (fun _ q _ h9 => hFc q.1 h9)
        clear hB
        generalize H1 = H at hP hS ⊢
        replace hP : va_P (dC, dI) vwCl (mW h a k F32 V33) H := hP
        obtain ⟨hwI, hwU, hwV, hw⟩ := hw
        replace hU : ∀ j : Nat, j ∉ ([7, 8, 9, 11, 12, 25, 26, 42, 43, 44] : List Nat) → F32 j = F j := mw_tr (by decide) hwU hU
        replace hV : ∀ j : Nat, j ∉ ([45] : List Nat) → V33 j = V j := mw_tr (by decide) hwV hV
        replace hI : StM n (b + 2) F V F32 V33 := hI.trans hwI
        replace t26 : F32 26 = upd (F 26) (nI sv).toNatClampNeg (vp_nar .boolean 1) := (hwU 26 (by decide)).trans t26
        refine lv_goto (tgt := 118) hx hb dX9_beginOne_54 (by decide) ?_
        exact W.vret hx hb hr (fun t ht hW => ⟨⟨(F32, V33), rfl, ⟨hI.mono (by omega), hU, hV, t26⟩, by rw [ht]; exact hP, hD⟩, hS.F ht⟩) hS.2.2 dX9_beginOne_118
      · refine lv_iconst (v := 2) hx hb dX9_beginOne_46 (by decide) ?_
        refine lv_goto (tgt := 51) hx hb dX9_beginOne_47 (by decide) ?_
        have hFc := mw_free hD hS hA
        refine va_callv (va_runV (As := [.int (nI sv), .int 2]) (rest := []) ⟨hx, hb, hml, hown, hts⟩ (c_m_to l dC dI h a k F1 V n (b) sv 2 H.size hI.1 (by omega) (by omega)) (cwV 2 hts wc_m_beginOne_m_to_211 rfl rfl rfl (by decide +kernel) ⟨Nat.le_of_ble_eq_true rfl, Nat.le_of_ble_eq_true rfl⟩) ⟨fun a9 U g mk q => by obtain ⟨q0, q1, qP, qK, qD⟩ := q; exact ⟨q0, q1, qP, va_K.moved (u := U) (U := U.calling g mk a9) (Vm.Alike.refl U.vm) qK, qD⟩, va_recv hK hP (ci := 10) (q0 := 0) rfl rfl, fun U hU hW => ⟨rfl, by rw [hU], by rw [hU]; exact hP, va_K.moved hW.alike hK, hD.weaken (fun _ _ _ _ => trivial)⟩⟩ rfl rfl hl.1 rfl (lv_room (Nat.le_of_ble_eq_true rfl)) dX9_beginOne_51 ⟨Nat.le_of_ble_eq_true rfl, Nat.le_of_ble_eq_true rfl⟩) hS (fun q _ h => hFc q h) hFc (fun u t H1 locs ht hvm hw hB hz1 hk1 hS => ?_)
        obtain ⟨F35, V36⟩ := u
        replace hP := hB.1
        rw [ht] at hP
        replace hD : va_D A (mW h a k F35 V36) := hB.2.weaken (fun _ q _ h9 => hFc q.1 h9)
        clear hB
        generalize H1 = H at hP hS ⊢
        replace hP : va_P (dC, dI) vwCl (mW h a k F35 V36) H := hP
        obtain ⟨hwI, hwU, hwV, hw⟩ := hw
        replace hU : ∀ j : Nat, j ∉ ([7, 8, 9, 11, 12, 25, 26, 42, 43, 44] : List Nat) → F35 j = F j := mw_tr (by decide) hwU hU
        replace hV : ∀ j : Nat, j ∉ ([45] : List Nat) → V36 j = V j := mw_tr (by decide) hwV hV
        replace hI : StM n (b + 2) F V F35 V36 := hI.trans hwI
        replace t26 : F35 26 = upd (F 26) (nI sv).toNatClampNeg (vp_nar .boolean 1) := (hwU 26 (by decide)).trans t26
        refine lv_goto (tgt := 118) hx hb dX9_beginOne_54 (by decide) ?_
        exact W.vret hx hb hr (fun t ht hW => ⟨⟨(F35, V36), rfl, ⟨hI.mono (by omega), hU, hV, t26⟩, by rw [ht]; exact hP, hD⟩, hS.F ht⟩) hS.2.2 dX9_beginOne_118
    · refine lv_aload_n hx hb dX9_beginOne_25 rfl (lv_at hl 0 rfl) ?_
      refine va_get (D := (dC, dI)) (ci := 10) (v := .ref (a 25)) (C := RX9) (T := TX9) (N := 46) hx hb hts in_m_beginOne_X9 hown hK hP 0 rfl rfl 25 (by decide) (hts (.fieldLink RX9 71 "ServiceTreeModel" "job" "[I") (by decide +kernel)) (fun _ h9 => h9) rfl dX9_beginOne_26 ?_
      refine lv_iload_n hx hb dX9_beginOne_29 rfl (lv_at hl 1 rfl) ?_
      refine lv_iconst (v := 0) hx hb dX9_beginOne_30 (by decide) ?_
      refine va_iast (n := 40) (f := F1 25) hx hb hK hP hD hS 21 20 rfl rfl (vp_in_nI (n := sv) (by omega) (by decide)) dX9_beginOne_31 (fun H locs hP hD hS => ?_)
      rw [mW_set_25] at hP hD
      obtain ⟨F37, eF37⟩ : ∃ f9 : Nat → Nat → Int32, f9 = va_up F1 25 (upd (F1 25) (nI sv).toNatClampNeg 0) := ⟨_, rfl⟩
      rw [← eF37] at hP hD
      replace hI : StM n (b) F V F37 V := ⟨by rw [eF37]; exact hI.1.setF (by decide), trivial⟩
      replace hU : ∀ j : Nat, j ∉ ([7, 8, 9, 11, 12, 25, 26, 42, 43, 44] : List Nat) → F37 j = F j := by rw [eF37]; exact mw_up (by decide) hU
      replace t26 : F37 26 = upd (F 26) (nI sv).toNatClampNeg (vp_nar .boolean 1) := by rw [eF37]; exact (va_up_ne _ _ (by decide)).trans t26
      refine lv_goto (tgt := 118) hx hb dX9_beginOne_32 (by decide) ?_
      exact W.vret hx hb hr (fun t ht hW => ⟨⟨(F37, V), rfl, ⟨hI.mono (by omega), hU, hV, t26⟩, by rw [ht]; exact hP, hD⟩, hS.F ht⟩) hS.2.2 dX9_beginOne_118
def wq_m_failsNow : List Cond := [.code yX9_failsNow cX9_failsNow 4 none, .fieldLink RX9 40 "ServiceTreeModel" "fails" "[I", .fieldLink RX9 53 "ServiceTreeModel" "waitedMany" "[I", .fieldLink RX9 25 "ServiceTreeModel" "budget" "[I", .fieldLink RX9 50 "ServiceTreeModel" "waitedAt" "[I", .fieldLink RX9 129 "ServiceTreeModel" "tick" "I", .fieldLink RX9 28 "ServiceTreeModel" "window" "[I", .methodLink RX9 211 yX9_to, .instanceMethod yX9_to, .selects RX9 yX9_to yX9_to, .initialized RX9] ++ (wsX90 ++ (wq_m_to))
theorem in_m_failsNow_X9 : ∀ w ∈ wsX90, w ∈ wq_m_failsNow := fun _ h => List.mem_append_right _ (List.mem_append_left _ (h))
set_option maxRecDepth 20000 in
theorem wi_m_failsNow : ∀ w ∈ wq_m_failsNow, w ∈ lw_tbl := List.forall_mem_append.mpr ⟨(by decide +kernel), List.forall_mem_append.mpr ⟨inKX9, wi_m_to⟩⟩
set_option maxRecDepth 20000 in
theorem wg_m_failsNow : GoodIn wq_m_failsNow wq_m_failsNow := goodIn_sub (fun _ h => h) (by decide +kernel)
set_option maxRecDepth 20000 in
theorem wc_m_failsNow_m_to_211 : GoodIn wq_m_failsNow (wsV RX9 211 RX9 yX9_to wq_m_to) := goodIn_app (goodIn_of _ (by decide +kernel)) (fun w h => ⟨List.mem_append_right _ (List.mem_append_right _ (h)), (wg_m_to w h).2⟩)
def rm_m_failsNow : Room := { frames := 1, cells := 0, slots := 0, locals := 22 }
set_option maxHeartbeats 4000000 in
set_option maxRecDepth 100000 in
theorem c_m_failsNow (l : Launch) (dC : Nat → ClassId) (dI : Nat → Nat → Nat) (h : Nat) (a : Nat → Nat) (k : Nat → ClassId) (F : Nat → Nat → Int32) (V : Nat → Int32) (n b : Nat) (sv : Nat) (sz : Nat) (hI0 : InvM n b F V) (hb0 : b + 2 < 2147483648) (hp0 : sv < n) : Met l yX9_failsNow wq_m_failsNow rm_m_failsNow (va_Pc [.ref h, .int (nI sv)] (fun U => U.heap.size = sz ∧ va_P (dC, dI) vwCl (mW h a k F V) U.heap ∧ va_K (dC, dI) vwCl (mT k) U ∧ va_D (fun _ => True) (mW h a k F V))) (va_Qv (fun (u : (Nat → Nat → Int32) × (Nat → Int32)) => StM n (b + 2) F V u.1 u.2 ∧ (∀ j : Nat, j ∉ ([7, 8, 9, 10, 11, 12, 13, 14, 42, 43, 44] : List Nat) → u.1 j = F j) ∧ (∀ j : Nat, j ∉ ([45] : List Nat) → u.2 j = V j) ∧ (True)) (fun (u : (Nat → Nat → Int32) × (Nat → Int32)) (t : State) => va_P (dC, dI) vwCl (mW h a k u.1 u.2) t.heap ∧ va_D (va_A (mW h a k F V) sz) (mW h a k u.1 u.2)) (va_A (mW h a k F V) sz)) 0 0 (va_A (mW h a k F V) sz) := by
  have hn : n ≤ 40 := hI0.1
  have hI : StM n b F V F V := StM.rf hI0
  have hU : ∀ j : Nat, j ∉ ([7, 8, 9, 10, 11, 12, 13, 14, 42, 43, 44] : List Nat) → F j = F j := fun _ _ => rfl
  have hV : ∀ j : Nat, j ∉ ([45] : List Nat) → V j = V j := fun _ _ => rfl
  refine Met.ofW (cc := cX9_failsNow) (maxL := 4) (ret := none) (by decide) rfl ?_
  intro p e s m args below meth c s₁ B hml hv
  obtain ⟨rfl, hsz, hP, hK, hD0⟩ := hv
  have hx := B.exec
  have hb := B.bytes
  have hr := B.returns
  have hts := atoms_spec (ws := wq_m_failsNow) B.pre
  have hown : s.vm.findClass RX9 = some m.cls := findClass_of_methodNamed B.named
  have hlocks := B.notSynchronized
  subst hsz
  have hD := hD0.self (sz := s.heap.size)
  generalize hAe : va_A (mW h a k F V) s.heap.size = A at hD ⊢
  have hA : ∀ q : Nat, s.heap.size ≤ q → A q := fun q h => by rw [← hAe]; exact Or.inr h
  have hS : va_S A s.heap s.heap [] := va_S.rf
  have hl := lv_entry ([.ref h, .int (nI sv)]) (n := 4) (Nat.le_of_ble_eq_true rfl)
  rw [lg_entry_eq]
  generalize (lg_sl ([.ref h, .int (nI sv)]) ++ List.replicate (4 - (lg_sl ([.ref h, .int (nI sv)])).length) Slot.unset).toArray = ls at hl ⊢
  have hl : lv_has ls 4 [(0, .ref h), (1, .int (nI sv))] := hl
  refine mw_Q (fun Q0 hQ => ?_)
  have t14 : F 14 = F 14 := rfl
  refine lv_aload_n hx hb dX9_failsNow_0 rfl (lv_at hl 0 rfl) ?_
  refine va_get (D := (dC, dI)) (ci := 10) (v := .ref (a 10)) (C := RX9) (T := TX9) (N := 46) hx hb hts in_m_failsNow_X9 hown hK hP 0 rfl rfl 10 (by decide) (hts (.fieldLink RX9 40 "ServiceTreeModel" "fails" "[I") (by decide +kernel)) (fun _ h9 => h9) rfl dX9_failsNow_1 ?_
  refine lv_iload_n hx hb dX9_failsNow_4 rfl (lv_at hl 1 rfl) ?_
  refine lv_dup2_11 hx hb dX9_failsNow_5 rfl rfl ?_
  refine va_iald (n := 40) (f := F 10) hx hb hK hP 11 10 rfl rfl (vp_in_nI (n := sv) (by omega) (by decide)) dX9_failsNow_6 ?_
  refine lv_topi (fun x1 ex1 => ?_)
  refine lv_iconst (v := 1) hx hb dX9_failsNow_7 (by decide) ?_
  refine lv_iadd hx hb dX9_failsNow_8 ?_
  refine lv_topi (fun x2 ex2 => ?_)
  refine va_iast (n := 40) (f := F 10) hx hb hK hP hD hS 11 10 rfl rfl (vp_in_nI (n := sv) (by omega) (by decide)) dX9_failsNow_9 (fun H locs hP hD hS => ?_)
  rw [mW_set_10] at hP hD
  obtain ⟨F3, eF3⟩ : ∃ f9 : Nat → Nat → Int32, f9 = va_up F 10 (upd (F 10) (nI sv).toNatClampNeg x2) := ⟨_, rfl⟩
  rw [← eF3] at hP hD
  replace hI : StM n (b) F V F3 V := ⟨by rw [eF3]; exact hI.1.setF (by decide), trivial⟩
  replace hU : ∀ j : Nat, j ∉ ([7, 8, 9, 10, 11, 12, 13, 14, 42, 43, 44] : List Nat) → F3 j = F j := by rw [eF3]; exact mw_up (by decide) hU
  replace t14 : F3 14 = F 14 := by rw [eF3]; exact (va_up_ne _ _ (by decide)).trans t14
  refine lv_iconst (v := 0) hx hb dX9_failsNow_10 (by decide) ?_
  refine lv_istore_n (lv' := [(2, .int 0), (0, .ref h), (1, .int (nI sv))]) hx hb dX9_failsNow_11 rfl hl (by decide) rfl (fun ls hl => ?_)
  refine lv_iconst (v := 0) hx hb dX9_failsNow_12 (by decide) ?_
  refine lv_istore_n (lv' := [(3, .int 0), (2, .int 0), (0, .ref h), (1, .int (nI sv))]) hx hb dX9_failsNow_13 rfl hl (by decide) rfl (fun ls hl => ?_)
  have lp7 : ∀ (fu5 i4 : Nat) (y10 : Int32) (F8 : Nat → Nat → Int32) (V9 : Nat → Int32) (H : Heap) (locs : List Loc) (ls : Array Slot), 10 < i4 + fu5 → i4 ≤ 10 → StM n (b) F V F8 V9 → (∀ j : Nat, j ∉ ([7, 8, 9, 10, 11, 12, 13, 14, 42, 43, 44] : List Nat) → F8 j = F j) → (∀ j : Nat, j ∉ ([45] : List Nat) → V9 j = V j) → F8 14 = F 14 → va_P (dC, dI) vwCl (mW h a k F8 V9) H → va_D A (mW h a k F8 V9) → va_S A s.heap H locs → lv_has ls 4 [(3, .int (nI i4)), (2, .int y10), (0, .ref h), (1, .int (nI sv))] → W p l e (headSpec wq_m_failsNow rm_m_failsNow).room s m ([.ref h, .int (nI sv)] : List Value).toArray below meth c H locs 0 0 Q0 (F0 m 14 ls []) := by
    intro fu5
    induction fu5 with
    | zero =>
      intro i4 y10 F8 V9 H locs ls hf hi
      exact absurd hf (by omega)
    | succ fu5 ih6 =>
      intro i4 y10 F8 V9 H locs ls hfi4 hii4 hI hU hV t14qi4 hP hD hS hl
      have t14 := t14qi4
      refine lv_iload_n hx hb dX9_failsNow_14 rfl (lv_at hl 0 rfl) ?_
      refine lv_aload_n hx hb dX9_failsNow_15 rfl (lv_at hl 2 rfl) ?_
      refine va_get (D := (dC, dI)) (ci := 10) (v := .ref (a 14)) (C := RX9) (T := TX9) (N := 46) hx hb hts in_m_failsNow_X9 hown hK hP 0 rfl rfl 14 (by decide) (hts (.fieldLink RX9 53 "ServiceTreeModel" "waitedMany" "[I") (by decide +kernel)) (fun _ h9 => h9) rfl dX9_failsNow_16 ?_
      refine lv_iload_n hx hb dX9_failsNow_19 rfl (lv_at hl 3 rfl) ?_
      refine va_iald (n := 40) (f := F8 14) hx hb hK hP 15 14 rfl rfl (vp_in_nI (n := sv) (by omega) (by decide)) dX9_failsNow_20 ?_
      refine lv_topi (fun x11 ex11 => ?_)
      rw [t14] at ex11
      obtain ⟨m12, hm12, qm12⟩ := hI.1.2.2.2.2.2.1 (nI sv).toNatClampNeg
      rw [t14] at qm12
      obtain rfl : x11 = nI m12 := ex11.trans qm12
      refine lv_icmp_ge (tgt := 63) hx hb dX9_failsNow_21 (by decide) (fun c13 => ?_) (fun c13 => ?_)
      · replace c13 : m12 ≤ i4 := (nI_leI (a := m12) (b := i4) (by omega) (by omega)).mp c13
        refine lv_aload_n hx hb dX9_failsNow_63 rfl (lv_at hl 2 rfl) ?_
        refine va_get (D := (dC, dI)) (ci := 10) (v := .ref (a 5)) (C := RX9) (T := TX9) (N := 46) hx hb hts in_m_failsNow_X9 hown hK hP 0 rfl rfl 5 (by decide) (hts (.fieldLink RX9 25 "ServiceTreeModel" "budget" "[I") (by decide +kernel)) (fun _ h9 => h9) rfl dX9_failsNow_64 ?_
        refine lv_iload_n hx hb dX9_failsNow_67 rfl (lv_at hl 3 rfl) ?_
        refine va_iald (n := 40) (f := F8 5) hx hb hK hP 6 5 rfl rfl (vp_in_nI (n := sv) (by omega) (by decide)) dX9_failsNow_68 ?_
        refine lv_topi (fun x14 ex14 => ?_)
        refine lv_if_eq (tgt := 82) hx hb dX9_failsNow_69 (by decide) (fun c15 => ?_) (fun c15 => ?_)
        · refine lv_aload_n hx hb dX9_failsNow_82 rfl (lv_at hl 2 rfl) ?_
          refine lv_iload_n hx hb dX9_failsNow_83 rfl (lv_at hl 3 rfl) ?_
          refine lv_iconst (v := 4) hx hb dX9_failsNow_84 (by decide) ?_
          have hFc := mw_free hD hS hA
          refine va_callv (va_runV (As := [.int (nI sv), .int 4]) (rest := []) ⟨hx, hb, hml, hown, hts⟩ (c_m_to l dC dI h a k F8 V9 n (b) sv 4 H.size hI.1 (by omega) (by omega)) (cwV 2 hts wc_m_failsNow_m_to_211 rfl rfl rfl (by decide +kernel) ⟨Nat.le_of_ble_eq_true rfl, Nat.le_of_ble_eq_true rfl⟩) ⟨fun a9 U g mk q => by obtain ⟨q0, q1, qP, qK, qD⟩ := q; exact ⟨q0, q1, qP, va_K.moved (u := U) (U := U.calling g mk a9) (Vm.Alike.refl U.vm) qK, qD⟩, va_recv hK hP (ci := 10) (q0 := 0) rfl rfl, fun U hU hW => ⟨rfl, by rw [hU], by rw [hU]; exact hP, va_K.moved hW.alike hK, hD.weaken (fun _ _ _ _ => trivial)⟩⟩ rfl rfl hl.1 rfl (lv_room (Nat.le_of_ble_eq_true rfl)) dX9_failsNow_85 ⟨Nat.le_of_ble_eq_true rfl, Nat.le_of_ble_eq_true rfl⟩) hS (fun q _ h => hFc q h) hFc (fun u t H1 locs ht hvm hw hB hz1 hk1 hS => ?_)
          obtain ⟨F17, V18⟩ := u
          replace hP := hB.1
          rw [ht] at hP
          replace hD : va_D A (mW h a k F17 V18) := hB.2.weaken (fun _ q _ h9 => hFc q.1 h9)
          clear hB
          generalize H1 = H at hP hS ⊢
          replace hP : va_P (dC, dI) vwCl (mW h a k F17 V18) H := hP
          obtain ⟨hwI, hwU, hwV, hw⟩ := hw
          replace hU : ∀ j : Nat, j ∉ ([7, 8, 9, 10, 11, 12, 13, 14, 42, 43, 44] : List Nat) → F17 j = F j := mw_tr (by decide) hwU hU
          replace hV : ∀ j : Nat, j ∉ ([45] : List Nat) → V18 j = V j := mw_tr (by decide) hwV hV
          replace hI : StM n (b + 2) F V F17 V18 := hI.trans hwI
          replace t14 : F17 14 = F 14 := (hwU 14 (by decide)).trans t14
          rw [hQ]
          exact W.vret hx hb hr (fun t ht hW => ⟨⟨(F17, V18), rfl, ⟨hI.mono (by omega), hU, hV, trivial⟩, by rw [ht]; exact hP, hD⟩, hS.F ht⟩) hS.2.2 dX9_failsNow_88
        · refine lv_iload_n hx hb dX9_failsNow_72 rfl (lv_at hl 1 rfl) ?_
          refine lv_aload_n hx hb dX9_failsNow_73 rfl (lv_at hl 2 rfl) ?_
          refine va_get (D := (dC, dI)) (ci := 10) (v := .ref (a 5)) (C := RX9) (T := TX9) (N := 46) hx hb hts in_m_failsNow_X9 hown hK hP 0 rfl rfl 5 (by decide) (hts (.fieldLink RX9 25 "ServiceTreeModel" "budget" "[I") (by decide +kernel)) (fun _ h9 => h9) rfl dX9_failsNow_74 ?_
          refine lv_iload_n hx hb dX9_failsNow_77 rfl (lv_at hl 3 rfl) ?_
          refine va_iald (n := 40) (f := F8 5) hx hb hK hP 6 5 rfl rfl (vp_in_nI (n := sv) (by omega) (by decide)) dX9_failsNow_78 ?_
          refine p1_topr (v := .int x14) (congrArg Value.int ex14.symm) ?_
          refine lv_icmp_lt (tgt := 89) hx hb dX9_failsNow_79 (by decide) (fun c20 => ?_) (fun c20 => ?_)
          · refine lv_aload_n hx hb dX9_failsNow_89 rfl (lv_at hl 2 rfl) ?_
            refine va_get (D := (dC, dI)) (ci := 10) (v := .ref (a 14)) (C := RX9) (T := TX9) (N := 46) hx hb hts in_m_failsNow_X9 hown hK hP 0 rfl rfl 14 (by decide) (hts (.fieldLink RX9 53 "ServiceTreeModel" "waitedMany" "[I") (by decide +kernel)) (fun _ h9 => h9) rfl dX9_failsNow_90 ?_
            refine lv_iload_n hx hb dX9_failsNow_93 rfl (lv_at hl 3 rfl) ?_
            refine va_iald (n := 40) (f := F8 14) hx hb hK hP 15 14 rfl rfl (vp_in_nI (n := sv) (by omega) (by decide)) dX9_failsNow_94 ?_
            refine p1_topr (v := .int (nI m12)) (congrArg Value.int (by rw [t14]; exact qm12)) ?_
            refine lv_bipush (v := 10) hx hb dX9_failsNow_95 (by decide) ?_
            refine lv_icmp_ne (tgt := 148) hx hb dX9_failsNow_97 (by decide) (fun c22 => ?_) (fun c22 => ?_)
            · replace c22 : ¬ (m12 = 10) := fun q9 => c22 ((nI_eq (a := m12) (b := 10) (by omega) (by omega)).mpr q9)
              refine lv_aload_n hx hb dX9_failsNow_148 rfl (lv_at hl 2 rfl) ?_
              refine va_get (D := (dC, dI)) (ci := 10) (v := .ref (a 13)) (C := RX9) (T := TX9) (N := 46) hx hb hts in_m_failsNow_X9 hown hK hP 0 rfl rfl 13 (by decide) (hts (.fieldLink RX9 50 "ServiceTreeModel" "waitedAt" "[I") (by decide +kernel)) (fun _ h9 => h9) rfl dX9_failsNow_149 ?_
              refine lv_bipush (v := 10) hx hb dX9_failsNow_152 (by decide) ?_
              refine lv_iload_n hx hb dX9_failsNow_154 rfl (lv_at hl 3 rfl) ?_
              refine lv_imul hx hb dX9_failsNow_155 ?_
              refine p1_topr (v := .int (nI (10 * sv))) (congrArg Value.int (pk_mul 10 sv)) ?_
              refine lv_aload_n hx hb dX9_failsNow_156 rfl (lv_at hl 2 rfl) ?_
              refine va_get (D := (dC, dI)) (ci := 10) (v := .ref (a 14)) (C := RX9) (T := TX9) (N := 46) hx hb hts in_m_failsNow_X9 hown hK hP 0 rfl rfl 14 (by decide) (hts (.fieldLink RX9 53 "ServiceTreeModel" "waitedMany" "[I") (by decide +kernel)) (fun _ h9 => h9) rfl dX9_failsNow_157 ?_
              refine lv_iload_n hx hb dX9_failsNow_160 rfl (lv_at hl 3 rfl) ?_
              refine va_iald (n := 40) (f := F8 14) hx hb hK hP 15 14 rfl rfl (vp_in_nI (n := sv) (by omega) (by decide)) dX9_failsNow_161 ?_
              refine p1_topr (v := .int (nI m12)) (congrArg Value.int (by rw [t14]; exact qm12)) ?_
              refine lv_iadd hx hb dX9_failsNow_162 ?_
              refine p1_topr (v := .int (nI ((10 * sv) + m12))) (congrArg Value.int (nI_add (10 * sv) m12)) ?_
              refine lv_aload_n hx hb dX9_failsNow_163 rfl (lv_at hl 2 rfl) ?_
              refine va_get (D := (dC, dI)) (ci := 10) (v := .int (V9 22)) (C := RX9) (T := TX9) (N := 46) hx hb hts in_m_failsNow_X9 hown hK hP 0 rfl rfl 22 (by decide) (hts (.fieldLink RX9 129 "ServiceTreeModel" "tick" "I") (by decide +kernel)) (fun _ h9 => h9) rfl dX9_failsNow_164 ?_
              refine lv_topi (fun x24 ex24 => ?_)
              refine va_iast (n := 400) (f := F8 13) hx hb hK hP hD hS 14 13 rfl rfl (vp_in_nI (n := (10 * sv) + m12) (by omega) (by decide)) dX9_failsNow_167 (fun H locs hP hD hS => ?_)
              rw [mW_set_13] at hP hD
              obtain ⟨F25, eF25⟩ : ∃ f9 : Nat → Nat → Int32, f9 = va_up F8 13 (upd (F8 13) (nI ((10 * sv) + m12)).toNatClampNeg x24) := ⟨_, rfl⟩
              rw [← eF25] at hP hD
              replace hI : StM n (b) F V F25 V9 := ⟨by rw [eF25]; exact hI.1.setF (by decide), trivial⟩
              replace hU : ∀ j : Nat, j ∉ ([7, 8, 9, 10, 11, 12, 13, 14, 42, 43, 44] : List Nat) → F25 j = F j := by rw [eF25]; exact mw_up (by decide) hU
              replace t14 : F25 14 = F 14 := by rw [eF25]; exact (va_up_ne _ _ (by decide)).trans t14
              refine lv_aload_n hx hb dX9_failsNow_168 rfl (lv_at hl 2 rfl) ?_
              refine va_get (D := (dC, dI)) (ci := 10) (v := .ref (a 14)) (C := RX9) (T := TX9) (N := 46) hx hb hts in_m_failsNow_X9 hown hK hP 0 rfl rfl 14 (by decide) (hts (.fieldLink RX9 53 "ServiceTreeModel" "waitedMany" "[I") (by decide +kernel)) (fun _ h9 => h9) rfl dX9_failsNow_169 ?_
              refine lv_iload_n hx hb dX9_failsNow_172 rfl (lv_at hl 3 rfl) ?_
              refine lv_dup2_11 hx hb dX9_failsNow_173 rfl rfl ?_
              refine va_iald (n := 40) (f := F25 14) hx hb hK hP 15 14 rfl rfl (vp_in_nI (n := sv) (by omega) (by decide)) dX9_failsNow_174 ?_
              refine p1_topr (v := .int (nI m12)) (congrArg Value.int (by rw [t14]; exact qm12)) ?_
              refine lv_iconst (v := 1) hx hb dX9_failsNow_175 (by decide) ?_
              refine lv_iadd hx hb dX9_failsNow_176 ?_
              refine p1_topr (v := .int (nI (m12 + 1))) (congrArg Value.int (nI_add m12 1)) ?_
              refine va_iast (n := 40) (f := F25 14) hx hb hK hP hD hS 15 14 rfl rfl (vp_in_nI (n := sv) (by omega) (by decide)) dX9_failsNow_177 (fun H locs hP hD hS => ?_)
              rw [mW_set_14] at hP hD
              obtain ⟨F27, eF27⟩ : ∃ f9 : Nat → Nat → Int32, f9 = va_up F25 14 (upd (F25 14) (nI sv).toNatClampNeg (nI (m12 + 1))) := ⟨_, rfl⟩
              rw [← eF27] at hP hD
              replace hI : StM n (b) F V F27 V9 := ⟨by rw [eF27]; exact hI.1.set14 (i := (nI sv).toNatClampNeg) (x := m12 + 1) (by omega), trivial⟩
              replace hU : ∀ j : Nat, j ∉ ([7, 8, 9, 10, 11, 12, 13, 14, 42, 43, 44] : List Nat) → F27 j = F j := by rw [eF27]; exact mw_up (by decide) hU
              replace t14 : F27 14 = upd (F 14) (nI sv).toNatClampNeg (nI (m12 + 1)) := by rw [eF27, va_up_self, t14]
              refine lv_aload_n hx hb dX9_failsNow_178 rfl (lv_at hl 2 rfl) ?_
              refine lv_iload_n hx hb dX9_failsNow_179 rfl (lv_at hl 3 rfl) ?_
              refine lv_iconst (v := 5) hx hb dX9_failsNow_180 (by decide) ?_
              have hFc := mw_free hD hS hA
              refine va_callv (va_runV (As := [.int (nI sv), .int 5]) (rest := []) ⟨hx, hb, hml, hown, hts⟩ (c_m_to l dC dI h a k F27 V9 n (b) sv 5 H.size hI.1 (by omega) (by omega)) (cwV 2 hts wc_m_failsNow_m_to_211 rfl rfl rfl (by decide +kernel) ⟨Nat.le_of_ble_eq_true rfl, Nat.le_of_ble_eq_true rfl⟩) ⟨fun a9 U g mk q => by obtain ⟨q0, q1, qP, qK, qD⟩ := q; exact ⟨q0, q1, qP, va_K.moved (u := U) (U := U.calling g mk a9) (Vm.Alike.refl U.vm) qK, qD⟩, va_recv hK hP (ci := 10) (q0 := 0) rfl rfl, fun U hU hW => ⟨rfl, by rw [hU], by rw [hU]; exact hP, va_K.moved hW.alike hK, hD.weaken (fun _ _ _ _ => trivial)⟩⟩ rfl rfl hl.1 rfl (lv_room (Nat.le_of_ble_eq_true rfl)) dX9_failsNow_181 ⟨Nat.le_of_ble_eq_true rfl, Nat.le_of_ble_eq_true rfl⟩) hS (fun q _ h => hFc q h) hFc (fun u t H1 locs ht hvm hw hB hz1 hk1 hS => ?_)
              obtain ⟨F29, V30⟩ := u
              replace hP := hB.1
              rw [ht] at hP
              replace hD : va_D A (mW h a k F29 V30) := hB.2.weaken (fun _ q _ h9 => hFc q.1 h9)
              clear hB
              generalize H1 = H at hP hS ⊢
              replace hP : va_P (dC, dI) vwCl (mW h a k F29 V30) H := hP
              obtain ⟨hwI, hwU, hwV, hw⟩ := hw
              replace hU : ∀ j : Nat, j ∉ ([7, 8, 9, 10, 11, 12, 13, 14, 42, 43, 44] : List Nat) → F29 j = F j := mw_tr (by decide) hwU hU
              replace hV : ∀ j : Nat, j ∉ ([45] : List Nat) → V30 j = V j := mw_tr (by decide) hwV hV
              replace hI : StM n (b + 2) F V F29 V30 := hI.trans hwI
              replace t14 : F29 14 = upd (F 14) (nI sv).toNatClampNeg (nI (m12 + 1)) := (hwU 14 (by decide)).trans t14
              rw [hQ]
              exact W.vret hx hb hr (fun t ht hW => ⟨⟨(F29, V30), rfl, ⟨hI.mono (by omega), hU, hV, trivial⟩, by rw [ht]; exact hP, hD⟩, hS.F ht⟩) hS.2.2 dX9_failsNow_184
            · replace c22 : m12 = 10 := (nI_eq (a := m12) (b := 10) (by omega) (by omega)).mp c22
              refine lv_iconst (v := 1) hx hb dX9_failsNow_100 (by decide) ?_
              refine lv_istore_n (lv' := [(3, .int 1), (2, .int y10), (0, .ref h), (1, .int (nI sv))]) hx hb dX9_failsNow_101 rfl hl (by decide) rfl (fun ls hl => ?_)
              have lp34 : ∀ (fu32 i31 : Nat)  (F35 : Nat → Nat → Int32) (V36 : Nat → Int32) (H : Heap) (locs : List Loc) (ls : Array Slot), 10 < i31 + fu32 → (1 ≤ i31 ∧ i31 ≤ 10) → StM n (b) F V F35 V36 → (∀ j : Nat, j ∉ ([7, 8, 9, 10, 11, 12, 13, 14, 42, 43, 44] : List Nat) → F35 j = F j) → (∀ j : Nat, j ∉ ([45] : List Nat) → V36 j = V j) → F35 14 = F 14 → va_P (dC, dI) vwCl (mW h a k F35 V36) H → va_D A (mW h a k F35 V36) → va_S A s.heap H locs → lv_has ls 4 [(3, .int (nI i31)), (2, .int y10), (0, .ref h), (1, .int (nI sv))] → W p l e (headSpec wq_m_failsNow rm_m_failsNow).room s m ([.ref h, .int (nI sv)] : List Value).toArray below meth c H locs 0 0 Q0 (F0 m 102 ls []) := by
                intro fu32
                induction fu32 with
                | zero =>
                  intro i31  F35 V36 H locs ls hf hi
                  exact absurd hf (by omega)
                | succ fu32 ih33 =>
                  intro i31  F35 V36 H locs ls hfi31 hii31 hI hU hV t14qi31 hP hD hS hl
                  have t14 := t14qi31
                  refine lv_iload_n hx hb dX9_failsNow_102 rfl (lv_at hl 0 rfl) ?_
                  refine lv_bipush (v := 10) hx hb dX9_failsNow_103 (by decide) ?_
                  refine lv_icmp_ge (tgt := 138) hx hb dX9_failsNow_105 (by decide) (fun c37 => ?_) (fun c37 => ?_)
                  · replace c37 : 10 ≤ i31 := (nI_leI (a := 10) (b := i31) (by omega) (by omega)).mp c37
                    refine lv_aload_n hx hb dX9_failsNow_138 rfl (lv_at hl 2 rfl) ?_
                    refine va_get (D := (dC, dI)) (ci := 10) (v := .ref (a 14)) (C := RX9) (T := TX9) (N := 46) hx hb hts in_m_failsNow_X9 hown hK hP 0 rfl rfl 14 (by decide) (hts (.fieldLink RX9 53 "ServiceTreeModel" "waitedMany" "[I") (by decide +kernel)) (fun _ h9 => h9) rfl dX9_failsNow_139 ?_
                    refine lv_iload_n hx hb dX9_failsNow_142 rfl (lv_at hl 3 rfl) ?_
                    refine lv_dup2_11 hx hb dX9_failsNow_143 rfl rfl ?_
                    refine va_iald (n := 40) (f := F35 14) hx hb hK hP 15 14 rfl rfl (vp_in_nI (n := sv) (by omega) (by decide)) dX9_failsNow_144 ?_
                    refine p1_topr (v := .int (nI m12)) (congrArg Value.int (by rw [t14]; exact qm12)) ?_
                    refine lv_iconst (v := 1) hx hb dX9_failsNow_145 (by decide) ?_
                    refine lv_isub hx hb dX9_failsNow_146 ?_
                    refine p1_topr (v := .int (nI (m12 - 1))) (congrArg Value.int (pk_sub (a := m12) (b := 1) (by omega))) ?_
                    refine va_iast (n := 40) (f := F35 14) hx hb hK hP hD hS 15 14 rfl rfl (vp_in_nI (n := sv) (by omega) (by decide)) dX9_failsNow_147 (fun H locs hP hD hS => ?_)
                    rw [mW_set_14] at hP hD
                    obtain ⟨F39, eF39⟩ : ∃ f9 : Nat → Nat → Int32, f9 = va_up F35 14 (upd (F35 14) (nI sv).toNatClampNeg (nI (m12 - 1))) := ⟨_, rfl⟩
                    rw [← eF39] at hP hD
                    replace hI : StM n (b) F V F39 V36 := ⟨by rw [eF39]; exact hI.1.set14 (i := (nI sv).toNatClampNeg) (x := m12 - 1) (by omega), trivial⟩
                    replace hU : ∀ j : Nat, j ∉ ([7, 8, 9, 10, 11, 12, 13, 14, 42, 43, 44] : List Nat) → F39 j = F j := by rw [eF39]; exact mw_up (by decide) hU
                    replace t14 : F39 14 = upd (F 14) (nI sv).toNatClampNeg (nI (m12 - 1)) := by rw [eF39, va_up_self, t14]
                    refine lv_aload_n hx hb dX9_failsNow_148 rfl (lv_at hl 2 rfl) ?_
                    refine va_get (D := (dC, dI)) (ci := 10) (v := .ref (a 13)) (C := RX9) (T := TX9) (N := 46) hx hb hts in_m_failsNow_X9 hown hK hP 0 rfl rfl 13 (by decide) (hts (.fieldLink RX9 50 "ServiceTreeModel" "waitedAt" "[I") (by decide +kernel)) (fun _ h9 => h9) rfl dX9_failsNow_149 ?_
                    refine lv_bipush (v := 10) hx hb dX9_failsNow_152 (by decide) ?_
                    refine lv_iload_n hx hb dX9_failsNow_154 rfl (lv_at hl 3 rfl) ?_
                    refine lv_imul hx hb dX9_failsNow_155 ?_
                    refine p1_topr (v := .int (nI (10 * sv))) (congrArg Value.int (pk_mul 10 sv)) ?_
                    refine lv_aload_n hx hb dX9_failsNow_156 rfl (lv_at hl 2 rfl) ?_
                    refine va_get (D := (dC, dI)) (ci := 10) (v := .ref (a 14)) (C := RX9) (T := TX9) (N := 46) hx hb hts in_m_failsNow_X9 hown hK hP 0 rfl rfl 14 (by decide) (hts (.fieldLink RX9 53 "ServiceTreeModel" "waitedMany" "[I") (by decide +kernel)) (fun _ h9 => h9) rfl dX9_failsNow_157 ?_
                    refine lv_iload_n hx hb dX9_failsNow_160 rfl (lv_at hl 3 rfl) ?_
                    refine va_iald (n := 40) (f := F39 14) hx hb hK hP 15 14 rfl rfl (vp_in_nI (n := sv) (by omega) (by decide)) dX9_failsNow_161 ?_
                    refine lv_topi (fun x40 ex40 => ?_)
                    rw [t14] at ex40
                    obtain rfl : x40 = nI (m12 - 1) := ex40.trans pk_us
                    refine lv_iadd hx hb dX9_failsNow_162 ?_
                    refine p1_topr (v := .int (nI ((10 * sv) + (m12 - 1)))) (congrArg Value.int (nI_add (10 * sv) (m12 - 1))) ?_
                    refine lv_aload_n hx hb dX9_failsNow_163 rfl (lv_at hl 2 rfl) ?_
                    refine va_get (D := (dC, dI)) (ci := 10) (v := .int (V36 22)) (C := RX9) (T := TX9) (N := 46) hx hb hts in_m_failsNow_X9 hown hK hP 0 rfl rfl 22 (by decide) (hts (.fieldLink RX9 129 "ServiceTreeModel" "tick" "I") (by decide +kernel)) (fun _ h9 => h9) rfl dX9_failsNow_164 ?_
                    refine lv_topi (fun x41 ex41 => ?_)
                    refine va_iast (n := 400) (f := F39 13) hx hb hK hP hD hS 14 13 rfl rfl (vp_in_nI (n := (10 * sv) + (m12 - 1)) (by omega) (by decide)) dX9_failsNow_167 (fun H locs hP hD hS => ?_)
                    rw [mW_set_13] at hP hD
                    obtain ⟨F42, eF42⟩ : ∃ f9 : Nat → Nat → Int32, f9 = va_up F39 13 (upd (F39 13) (nI ((10 * sv) + (m12 - 1))).toNatClampNeg x41) := ⟨_, rfl⟩
                    rw [← eF42] at hP hD
                    replace hI : StM n (b) F V F42 V36 := ⟨by rw [eF42]; exact hI.1.setF (by decide), trivial⟩
                    replace hU : ∀ j : Nat, j ∉ ([7, 8, 9, 10, 11, 12, 13, 14, 42, 43, 44] : List Nat) → F42 j = F j := by rw [eF42]; exact mw_up (by decide) hU
                    replace t14 : F42 14 = upd (F 14) (nI sv).toNatClampNeg (nI (m12 - 1)) := by rw [eF42]; exact (va_up_ne _ _ (by decide)).trans t14
                    refine lv_aload_n hx hb dX9_failsNow_168 rfl (lv_at hl 2 rfl) ?_
                    refine va_get (D := (dC, dI)) (ci := 10) (v := .ref (a 14)) (C := RX9) (T := TX9) (N := 46) hx hb hts in_m_failsNow_X9 hown hK hP 0 rfl rfl 14 (by decide) (hts (.fieldLink RX9 53 "ServiceTreeModel" "waitedMany" "[I") (by decide +kernel)) (fun _ h9 => h9) rfl dX9_failsNow_169 ?_
                    refine lv_iload_n hx hb dX9_failsNow_172 rfl (lv_at hl 3 rfl) ?_
                    refine lv_dup2_11 hx hb dX9_failsNow_173 rfl rfl ?_
                    refine va_iald (n := 40) (f := F42 14) hx hb hK hP 15 14 rfl rfl (vp_in_nI (n := sv) (by omega) (by decide)) dX9_failsNow_174 ?_
                    refine p1_topr (v := .int (nI (m12 - 1))) (congrArg Value.int (by rw [t14]; exact pk_us)) ?_
                    refine lv_iconst (v := 1) hx hb dX9_failsNow_175 (by decide) ?_
                    refine lv_iadd hx hb dX9_failsNow_176 ?_
                    refine p1_topr (v := .int (nI ((m12 - 1) + 1))) (congrArg Value.int (nI_add (m12 - 1) 1)) ?_
                    refine va_iast (n := 40) (f := F42 14) hx hb hK hP hD hS 15 14 rfl rfl (vp_in_nI (n := sv) (by omega) (by decide)) dX9_failsNow_177 (fun H locs hP hD hS => ?_)
                    rw [mW_set_14] at hP hD
                    obtain ⟨F44, eF44⟩ : ∃ f9 : Nat → Nat → Int32, f9 = va_up F42 14 (upd (F42 14) (nI sv).toNatClampNeg (nI ((m12 - 1) + 1))) := ⟨_, rfl⟩
                    rw [← eF44] at hP hD
                    replace hI : StM n (b) F V F44 V36 := ⟨by rw [eF44]; exact hI.1.set14 (i := (nI sv).toNatClampNeg) (x := (m12 - 1) + 1) (by omega), trivial⟩
                    replace hU : ∀ j : Nat, j ∉ ([7, 8, 9, 10, 11, 12, 13, 14, 42, 43, 44] : List Nat) → F44 j = F j := by rw [eF44]; exact mw_up (by decide) hU
                    replace t14 : F44 14 = upd (upd (F 14) (nI sv).toNatClampNeg (nI (m12 - 1))) (nI sv).toNatClampNeg (nI ((m12 - 1) + 1)) := by rw [eF44, va_up_self, t14]
                    refine lv_aload_n hx hb dX9_failsNow_178 rfl (lv_at hl 2 rfl) ?_
                    refine lv_iload_n hx hb dX9_failsNow_179 rfl (lv_at hl 3 rfl) ?_
                    refine lv_iconst (v := 5) hx hb dX9_failsNow_180 (by decide) ?_
                    have hFc := mw_free hD hS hA
                    refine va_callv (va_runV (As := [.int (nI sv), .int 5]) (rest := []) ⟨hx, hb, hml, hown, hts⟩ (c_m_to l dC dI h a k F44 V36 n (b) sv 5 H.size hI.1 (by omega) (by omega)) (cwV 2 hts wc_m_failsNow_m_to_211 rfl rfl rfl (by decide +kernel) ⟨Nat.le_of_ble_eq_true rfl, Nat.le_of_ble_eq_true rfl⟩) ⟨fun a9 U g mk q => by obtain ⟨q0, q1, qP, qK, qD⟩ := q; exact ⟨q0, q1, qP, va_K.moved (u := U) (U := U.calling g mk a9) (Vm.Alike.refl U.vm) qK, qD⟩, va_recv hK hP (ci := 10) (q0 := 0) rfl rfl, fun U hU hW => ⟨rfl, by rw [hU], by rw [hU]; exact hP, va_K.moved hW.alike hK, hD.weaken (fun _ _ _ _ => trivial)⟩⟩ rfl rfl hl.1 rfl (lv_room (Nat.le_of_ble_eq_true rfl)) dX9_failsNow_181 ⟨Nat.le_of_ble_eq_true rfl, Nat.le_of_ble_eq_true rfl⟩) hS (fun q _ h => hFc q h) hFc (fun u t H1 locs ht hvm hw hB hz1 hk1 hS => ?_)
                    obtain ⟨F46, V47⟩ := u
                    replace hP := hB.1
                    rw [ht] at hP
                    replace hD : va_D A (mW h a k F46 V47) := hB.2.weaken (fun _ q _ h9 => hFc q.1 h9)
                    clear hB
                    generalize H1 = H at hP hS ⊢
                    replace hP : va_P (dC, dI) vwCl (mW h a k F46 V47) H := hP
                    obtain ⟨hwI, hwU, hwV, hw⟩ := hw
                    replace hU : ∀ j : Nat, j ∉ ([7, 8, 9, 10, 11, 12, 13, 14, 42, 43, 44] : List Nat) → F46 j = F j := mw_tr (by decide) hwU hU
                    replace hV : ∀ j : Nat, j ∉ ([45] : List Nat) → V47 j = V j := mw_tr (by decide) hwV hV
                    replace hI : StM n (b + 2) F V F46 V47 := hI.trans hwI
                    replace t14 : F46 14 = upd (upd (F 14) (nI sv).toNatClampNeg (nI (m12 - 1))) (nI sv).toNatClampNeg (nI ((m12 - 1) + 1)) := (hwU 14 (by decide)).trans t14
                    rw [hQ]
                    exact W.vret hx hb hr (fun t ht hW => ⟨⟨(F46, V47), rfl, ⟨hI.mono (by omega), hU, hV, trivial⟩, by rw [ht]; exact hP, hD⟩, hS.F ht⟩) hS.2.2 dX9_failsNow_184
                  · replace c37 : ¬ (10 ≤ i31) := fun q9 => c37 ((nI_leI (a := 10) (b := i31) (by omega) (by omega)).mpr q9)
                    refine lv_aload_n hx hb dX9_failsNow_108 rfl (lv_at hl 2 rfl) ?_
                    refine va_get (D := (dC, dI)) (ci := 10) (v := .ref (a 13)) (C := RX9) (T := TX9) (N := 46) hx hb hts in_m_failsNow_X9 hown hK hP 0 rfl rfl 13 (by decide) (hts (.fieldLink RX9 50 "ServiceTreeModel" "waitedAt" "[I") (by decide +kernel)) (fun _ h9 => h9) rfl dX9_failsNow_109 ?_
                    refine lv_bipush (v := 10) hx hb dX9_failsNow_112 (by decide) ?_
                    refine lv_iload_n hx hb dX9_failsNow_114 rfl (lv_at hl 3 rfl) ?_
                    refine lv_imul hx hb dX9_failsNow_115 ?_
                    refine p1_topr (v := .int (nI (10 * sv))) (congrArg Value.int (pk_mul 10 sv)) ?_
                    refine lv_iload_n hx hb dX9_failsNow_116 rfl (lv_at hl 0 rfl) ?_
                    refine lv_iadd hx hb dX9_failsNow_117 ?_
                    refine p1_topr (v := .int (nI ((10 * sv) + i31))) (congrArg Value.int (nI_add (10 * sv) i31)) ?_
                    refine lv_iconst (v := 1) hx hb dX9_failsNow_118 (by decide) ?_
                    refine lv_isub hx hb dX9_failsNow_119 ?_
                    refine p1_topr (v := .int (nI (((10 * sv) + i31) - 1))) (congrArg Value.int (pk_sub (a := (10 * sv) + i31) (b := 1) (by omega))) ?_
                    refine lv_aload_n hx hb dX9_failsNow_120 rfl (lv_at hl 2 rfl) ?_
                    refine va_get (D := (dC, dI)) (ci := 10) (v := .ref (a 13)) (C := RX9) (T := TX9) (N := 46) hx hb hts in_m_failsNow_X9 hown hK hP 0 rfl rfl 13 (by decide) (hts (.fieldLink RX9 50 "ServiceTreeModel" "waitedAt" "[I") (by decide +kernel)) (fun _ h9 => h9) rfl dX9_failsNow_121 ?_
                    refine lv_bipush (v := 10) hx hb dX9_failsNow_124 (by decide) ?_
                    refine lv_iload_n hx hb dX9_failsNow_126 rfl (lv_at hl 3 rfl) ?_
                    refine lv_imul hx hb dX9_failsNow_127 ?_
                    refine p1_topr (v := .int (nI (10 * sv))) (congrArg Value.int (pk_mul 10 sv)) ?_
                    refine lv_iload_n hx hb dX9_failsNow_128 rfl (lv_at hl 0 rfl) ?_
                    refine lv_iadd hx hb dX9_failsNow_129 ?_
                    refine p1_topr (v := .int (nI ((10 * sv) + i31))) (congrArg Value.int (nI_add (10 * sv) i31)) ?_
                    refine va_iald (n := 400) (f := F35 13) hx hb hK hP 14 13 rfl rfl (vp_in_nI (n := (10 * sv) + i31) (by omega) (by decide)) dX9_failsNow_130 ?_
                    refine lv_topi (fun x48 ex48 => ?_)
                    refine va_iast (n := 400) (f := F35 13) hx hb hK hP hD hS 14 13 rfl rfl (vp_in_nI (n := ((10 * sv) + i31) - 1) (by omega) (by decide)) dX9_failsNow_131 (fun H locs hP hD hS => ?_)
                    rw [mW_set_13] at hP hD
                    obtain ⟨F49, eF49⟩ : ∃ f9 : Nat → Nat → Int32, f9 = va_up F35 13 (upd (F35 13) (nI (((10 * sv) + i31) - 1)).toNatClampNeg x48) := ⟨_, rfl⟩
                    rw [← eF49] at hP hD
                    replace hI : StM n (b) F V F49 V36 := ⟨by rw [eF49]; exact hI.1.setF (by decide), trivial⟩
                    replace hU : ∀ j : Nat, j ∉ ([7, 8, 9, 10, 11, 12, 13, 14, 42, 43, 44] : List Nat) → F49 j = F j := by rw [eF49]; exact mw_up (by decide) hU
                    replace t14 : F49 14 = F 14 := by rw [eF49]; exact (va_up_ne _ _ (by decide)).trans t14
                    refine lv_iinc (v := nI (i31 + 1)) (lv' := [(3, .int (nI (i31 + 1))), (2, .int y10), (0, .ref h), (1, .int (nI sv))]) hx hb dX9_failsNow_132 hl (k := 0) rfl (nI_add i31 1) (by decide) rfl (fun ls hl => ?_)
                    refine lv_goto (tgt := 102) hx hb dX9_failsNow_135 (by decide) ?_
                    exact ih33 (i31 + 1)  F49 V36 _ _ _ (by omega) (by omega) (hI.mono (by omega)) hU hV t14 hP hD hS (lv_sub hl [0, 1, 2, 3] rfl)
              exact lp34 (10 + 1) 1  F8 V9 _ _ _ (by omega) (by omega) (hI.mono (by omega)) hU hV t14 hP hD hS hl
          · refine lv_aload_n hx hb dX9_failsNow_82 rfl (lv_at hl 2 rfl) ?_
            refine lv_iload_n hx hb dX9_failsNow_83 rfl (lv_at hl 3 rfl) ?_
            refine lv_iconst (v := 4) hx hb dX9_failsNow_84 (by decide) ?_
            have hFc := mw_free hD hS hA
            refine va_callv (va_runV (As := [.int (nI sv), .int 4]) (rest := []) ⟨hx, hb, hml, hown, hts⟩ (c_m_to l dC dI h a k F8 V9 n (b) sv 4 H.size hI.1 (by omega) (by omega)) (cwV 2 hts wc_m_failsNow_m_to_211 rfl rfl rfl (by decide +kernel) ⟨Nat.le_of_ble_eq_true rfl, Nat.le_of_ble_eq_true rfl⟩) ⟨fun a9 U g mk q => by obtain ⟨q0, q1, qP, qK, qD⟩ := q; exact ⟨q0, q1, qP, va_K.moved (u := U) (U := U.calling g mk a9) (Vm.Alike.refl U.vm) qK, qD⟩, va_recv hK hP (ci := 10) (q0 := 0) rfl rfl, fun U hU hW => ⟨rfl, by rw [hU], by rw [hU]; exact hP, va_K.moved hW.alike hK, hD.weaken (fun _ _ _ _ => trivial)⟩⟩ rfl rfl hl.1 rfl (lv_room (Nat.le_of_ble_eq_true rfl)) dX9_failsNow_85 ⟨Nat.le_of_ble_eq_true rfl, Nat.le_of_ble_eq_true rfl⟩) hS (fun q _ h => hFc q h) hFc (fun u t H1 locs ht hvm hw hB hz1 hk1 hS => ?_)
            obtain ⟨F51, V52⟩ := u
            replace hP := hB.1
            rw [ht] at hP
            replace hD : va_D A (mW h a k F51 V52) := hB.2.weaken (fun _ q _ h9 => hFc q.1 h9)
            clear hB
            generalize H1 = H at hP hS ⊢
            replace hP : va_P (dC, dI) vwCl (mW h a k F51 V52) H := hP
            obtain ⟨hwI, hwU, hwV, hw⟩ := hw
            replace hU : ∀ j : Nat, j ∉ ([7, 8, 9, 10, 11, 12, 13, 14, 42, 43, 44] : List Nat) → F51 j = F j := mw_tr (by decide) hwU hU
            replace hV : ∀ j : Nat, j ∉ ([45] : List Nat) → V52 j = V j := mw_tr (by decide) hwV hV
            replace hI : StM n (b + 2) F V F51 V52 := hI.trans hwI
            replace t14 : F51 14 = F 14 := (hwU 14 (by decide)).trans t14
            rw [hQ]
            exact W.vret hx hb hr (fun t ht hW => ⟨⟨(F51, V52), rfl, ⟨hI.mono (by omega), hU, hV, trivial⟩, by rw [ht]; exact hP, hD⟩, hS.F ht⟩) hS.2.2 dX9_failsNow_88
      · replace c13 : ¬ (m12 ≤ i4) := fun q9 => c13 ((nI_leI (a := m12) (b := i4) (by omega) (by omega)).mpr q9)
        refine lv_iload_n hx hb dX9_failsNow_24 rfl (lv_at hl 1 rfl) ?_
        refine lv_aload_n hx hb dX9_failsNow_25 rfl (lv_at hl 2 rfl) ?_
        refine va_get (D := (dC, dI)) (ci := 10) (v := .int (V9 22)) (C := RX9) (T := TX9) (N := 46) hx hb hts in_m_failsNow_X9 hown hK hP 0 rfl rfl 22 (by decide) (hts (.fieldLink RX9 129 "ServiceTreeModel" "tick" "I") (by decide +kernel)) (fun _ h9 => h9) rfl dX9_failsNow_26 ?_
        refine lv_topi (fun x53 ex53 => ?_)
        refine lv_aload_n hx hb dX9_failsNow_29 rfl (lv_at hl 2 rfl) ?_
        refine va_get (D := (dC, dI)) (ci := 10) (v := .ref (a 13)) (C := RX9) (T := TX9) (N := 46) hx hb hts in_m_failsNow_X9 hown hK hP 0 rfl rfl 13 (by decide) (hts (.fieldLink RX9 50 "ServiceTreeModel" "waitedAt" "[I") (by decide +kernel)) (fun _ h9 => h9) rfl dX9_failsNow_30 ?_
        refine lv_bipush (v := 10) hx hb dX9_failsNow_33 (by decide) ?_
        refine lv_iload_n hx hb dX9_failsNow_35 rfl (lv_at hl 3 rfl) ?_
        refine lv_imul hx hb dX9_failsNow_36 ?_
        refine p1_topr (v := .int (nI (10 * sv))) (congrArg Value.int (pk_mul 10 sv)) ?_
        refine lv_iload_n hx hb dX9_failsNow_37 rfl (lv_at hl 0 rfl) ?_
        refine lv_iadd hx hb dX9_failsNow_38 ?_
        refine p1_topr (v := .int (nI ((10 * sv) + i4))) (congrArg Value.int (nI_add (10 * sv) i4)) ?_
        refine va_iald (n := 400) (f := F8 13) hx hb hK hP 14 13 rfl rfl (vp_in_nI (n := (10 * sv) + i4) (by omega) (by decide)) dX9_failsNow_39 ?_
        refine lv_topi (fun x54 ex54 => ?_)
        refine lv_isub hx hb dX9_failsNow_40 ?_
        refine lv_topi (fun x55 ex55 => ?_)
        refine lv_aload_n hx hb dX9_failsNow_41 rfl (lv_at hl 2 rfl) ?_
        refine va_get (D := (dC, dI)) (ci := 10) (v := .ref (a 6)) (C := RX9) (T := TX9) (N := 46) hx hb hts in_m_failsNow_X9 hown hK hP 0 rfl rfl 6 (by decide) (hts (.fieldLink RX9 28 "ServiceTreeModel" "window" "[I") (by decide +kernel)) (fun _ h9 => h9) rfl dX9_failsNow_42 ?_
        refine lv_iload_n hx hb dX9_failsNow_45 rfl (lv_at hl 3 rfl) ?_
        refine va_iald (n := 40) (f := F8 6) hx hb hK hP 7 6 rfl rfl (vp_in_nI (n := sv) (by omega) (by decide)) dX9_failsNow_46 ?_
        refine lv_topi (fun x56 ex56 => ?_)
        refine lv_icmp_ge (tgt := 54) hx hb dX9_failsNow_47 (by decide) (fun c57 => ?_) (fun c57 => ?_)
        · refine lv_iconst (v := 0) hx hb dX9_failsNow_54 (by decide) ?_
          refine lv_iadd hx hb dX9_failsNow_55 ?_
          refine lv_topi (fun x58 ex58 => ?_)
          refine lv_istore_n (lv' := [(2, .int x58), (3, .int (nI i4)), (0, .ref h), (1, .int (nI sv))]) hx hb dX9_failsNow_56 rfl hl (by decide) rfl (fun ls hl => ?_)
          refine lv_iinc (v := nI (i4 + 1)) (lv' := [(3, .int (nI (i4 + 1))), (2, .int x58), (0, .ref h), (1, .int (nI sv))]) hx hb dX9_failsNow_57 hl (k := 1) rfl (nI_add i4 1) (by decide) rfl (fun ls hl => ?_)
          refine lv_goto (tgt := 14) hx hb dX9_failsNow_60 (by decide) ?_
          exact ih6 (i4 + 1) x58 F8 V9 _ _ _ (by omega) (by omega) (hI.mono (by omega)) hU hV t14 hP hD hS (lv_sub hl [0, 1, 2, 3] rfl)
        · refine lv_iconst (v := 1) hx hb dX9_failsNow_50 (by decide) ?_
          refine lv_goto (tgt := 55) hx hb dX9_failsNow_51 (by decide) ?_
          refine lv_iadd hx hb dX9_failsNow_55 ?_
          refine lv_topi (fun x59 ex59 => ?_)
          refine lv_istore_n (lv' := [(2, .int x59), (3, .int (nI i4)), (0, .ref h), (1, .int (nI sv))]) hx hb dX9_failsNow_56 rfl hl (by decide) rfl (fun ls hl => ?_)
          refine lv_iinc (v := nI (i4 + 1)) (lv' := [(3, .int (nI (i4 + 1))), (2, .int x59), (0, .ref h), (1, .int (nI sv))]) hx hb dX9_failsNow_57 hl (k := 1) rfl (nI_add i4 1) (by decide) rfl (fun ls hl => ?_)
          refine lv_goto (tgt := 14) hx hb dX9_failsNow_60 (by decide) ?_
          exact ih6 (i4 + 1) x59 F8 V9 _ _ _ (by omega) (by omega) (hI.mono (by omega)) hU hV t14 hP hD hS (lv_sub hl [0, 1, 2, 3] rfl)
  exact lp7 (10 + 1) 0 0 F3 V _ _ _ (by omega) (by omega) (hI.mono (by omega)) hU hV t14 hP hD hS hl
def wq_m_step : List Cond := [.code yX9_step cX9_step 3 none, .fieldLink RX9 31 "ServiceTreeModel" "state" "[I", .fieldLink RX9 129 "ServiceTreeModel" "tick" "I", .fieldLink RX9 34 "ServiceTreeModel" "since" "[I", .fieldLink RX9 22 "ServiceTreeModel" "delay" "[I", .fieldLink RX9 40 "ServiceTreeModel" "fails" "[I", .fieldLink RX9 13 "ServiceTreeModel" "start" "[I", .fieldLink RX9 43 "ServiceTreeModel" "hasEnded" "[Z", .fieldLink RX9 47 "ServiceTreeModel" "lives" "[I", .fieldLink RX9 9 "ServiceTreeModel" "kind" "[I", .fieldLink RX9 16 "ServiceTreeModel" "stop" "[I", .methodLink RX9 237 yX9_isFree, .instanceMethod yX9_isFree, .selects RX9 yX9_isFree yX9_isFree, .initialized RX9, .methodLink RX9 211 yX9_to, .instanceMethod yX9_to, .selects RX9 yX9_to yX9_to, .methodLink RX9 234 yX9_failsNow, .instanceMethod yX9_failsNow, .selects RX9 yX9_failsNow yX9_failsNow] ++ (wsX90 ++ (wq_m_isFree ++ (wq_m_to ++ (wq_m_failsNow))))
theorem in_m_step_X9 : ∀ w ∈ wsX90, w ∈ wq_m_step := fun _ h => List.mem_append_right _ (List.mem_append_left _ (h))
set_option maxRecDepth 20000 in
theorem wi_m_step : ∀ w ∈ wq_m_step, w ∈ lw_tbl := List.forall_mem_append.mpr ⟨(by decide +kernel), List.forall_mem_append.mpr ⟨inKX9, List.forall_mem_append.mpr ⟨wi_m_isFree, List.forall_mem_append.mpr ⟨wi_m_to, wi_m_failsNow⟩⟩⟩⟩
set_option maxRecDepth 20000 in
theorem wg_m_step : GoodIn wq_m_step wq_m_step := goodIn_sub (fun _ h => h) (by decide +kernel)
set_option maxRecDepth 20000 in
theorem wc_m_step_m_isFree_237 : GoodIn wq_m_step (wsV RX9 237 RX9 yX9_isFree wq_m_isFree) := goodIn_app (goodIn_of _ (by decide +kernel)) (fun w h => ⟨List.mem_append_right _ (List.mem_append_right _ (List.mem_append_left _ (h))), (wg_m_isFree w h).2⟩)
set_option maxRecDepth 20000 in
theorem wc_m_step_m_to_211 : GoodIn wq_m_step (wsV RX9 211 RX9 yX9_to wq_m_to) := goodIn_app (goodIn_of _ (by decide +kernel)) (fun w h => ⟨List.mem_append_right _ (List.mem_append_right _ (List.mem_append_right _ (List.mem_append_left _ (h)))), (wg_m_to w h).2⟩)
set_option maxRecDepth 20000 in
theorem wc_m_step_m_failsNow_234 : GoodIn wq_m_step (wsV RX9 234 RX9 yX9_failsNow wq_m_failsNow) := goodIn_app (goodIn_of _ (by decide +kernel)) (fun w h => ⟨List.mem_append_right _ (List.mem_append_right _ (List.mem_append_right _ (List.mem_append_right _ (h)))), (wg_m_failsNow w h).2⟩)
def rm_m_step : Room := { frames := 3, cells := 0, slots := 0, locals := 69 }
set_option maxHeartbeats 4000000 in
set_option maxRecDepth 100000 in
theorem c_m_step (l : Launch) (dC : Nat → ClassId) (dI : Nat → Nat → Nat) (h : Nat) (a : Nat → Nat) (k : Nat → ClassId) (F : Nat → Nat → Int32) (V : Nat → Int32) (n b : Nat) (sv : Nat) (sz : Nat) (hI0 : InvM n b F V) (hb0 : b + 6 < 2147483648) (hp0 : sv < n) : Met l yX9_step wq_m_step rm_m_step (va_Pc [.ref h, .int (nI sv)] (fun U => U.heap.size = sz ∧ va_P (dC, dI) vwCl (mW h a k F V) U.heap ∧ va_K (dC, dI) vwCl (mT k) U ∧ va_D (fun _ => True) (mW h a k F V))) (va_Qv (fun (u : (Nat → Nat → Int32) × (Nat → Int32)) => StM n (b + 6) F V u.1 u.2 ∧ (∀ j : Nat, j ∉ ([7, 8, 9, 10, 11, 12, 13, 14, 42, 43, 44] : List Nat) → u.1 j = F j) ∧ (∀ j : Nat, j ∉ ([45] : List Nat) → u.2 j = V j) ∧ (True)) (fun (u : (Nat → Nat → Int32) × (Nat → Int32)) (t : State) => va_P (dC, dI) vwCl (mW h a k u.1 u.2) t.heap ∧ va_D (va_A (mW h a k F V) sz) (mW h a k u.1 u.2)) (va_A (mW h a k F V) sz)) 0 0 (va_A (mW h a k F V) sz) := by
  have hn : n ≤ 40 := hI0.1
  have hI : StM n b F V F V := StM.rf hI0
  have hU : ∀ j : Nat, j ∉ ([7, 8, 9, 10, 11, 12, 13, 14, 42, 43, 44] : List Nat) → F j = F j := fun _ _ => rfl
  have hV : ∀ j : Nat, j ∉ ([45] : List Nat) → V j = V j := fun _ _ => rfl
  refine Met.ofW (cc := cX9_step) (maxL := 3) (ret := none) (by decide) rfl ?_
  intro p e s m args below meth c s₁ B hml hv
  obtain ⟨rfl, hsz, hP, hK, hD0⟩ := hv
  have hx := B.exec
  have hb := B.bytes
  have hr := B.returns
  have hts := atoms_spec (ws := wq_m_step) B.pre
  have hown : s.vm.findClass RX9 = some m.cls := findClass_of_methodNamed B.named
  have hlocks := B.notSynchronized
  subst hsz
  have hD := hD0.self (sz := s.heap.size)
  generalize hAe : va_A (mW h a k F V) s.heap.size = A at hD ⊢
  have hA : ∀ q : Nat, s.heap.size ≤ q → A q := fun q h => by rw [← hAe]; exact Or.inr h
  have hS : va_S A s.heap s.heap [] := va_S.rf
  have hl := lv_entry ([.ref h, .int (nI sv)]) (n := 3) (Nat.le_of_ble_eq_true rfl)
  rw [lg_entry_eq]
  generalize (lg_sl ([.ref h, .int (nI sv)]) ++ List.replicate (3 - (lg_sl ([.ref h, .int (nI sv)])).length) Slot.unset).toArray = ls at hl ⊢
  have hl : lv_has ls 3 [(0, .ref h), (1, .int (nI sv))] := hl
  refine mw_Q (fun Q0 hQ => ?_)
  have jn3 : ∀ (F1 : Nat → Nat → Int32) (V2 : Nat → Int32) (H : Heap) (locs : List Loc) (ls : Array Slot), StM n (b + 2) F V F1 V2 → (∀ j : Nat, j ∉ ([7, 8, 9, 10, 11, 12, 13, 14, 42, 43, 44] : List Nat) → F1 j = F j) → (∀ j : Nat, j ∉ ([45] : List Nat) → V2 j = V j) → va_P (dC, dI) vwCl (mW h a k F1 V2) H → va_D A (mW h a k F1 V2) → va_S A s.heap H locs → lv_has ls 3 [(0, .ref h), (1, .int (nI sv))] → W p l e (headSpec wq_m_step rm_m_step).room s m ([.ref h, .int (nI sv)] : List Value).toArray below meth c H locs 0 0 Q0 (F0 m 75 ls []) := by
    intro F1 V2 H locs ls hI hU hV hP hD hS hl
    have jn6 : ∀ (F4 : Nat → Nat → Int32) (V5 : Nat → Int32) (H : Heap) (locs : List Loc) (ls : Array Slot), StM n (b + 4) F V F4 V5 → (∀ j : Nat, j ∉ ([7, 8, 9, 10, 11, 12, 13, 14, 42, 43, 44] : List Nat) → F4 j = F j) → (∀ j : Nat, j ∉ ([45] : List Nat) → V5 j = V j) → va_P (dC, dI) vwCl (mW h a k F4 V5) H → va_D A (mW h a k F4 V5) → va_S A s.heap H locs → lv_has ls 3 [(0, .ref h), (1, .int (nI sv))] → W p l e (headSpec wq_m_step rm_m_step).room s m ([.ref h, .int (nI sv)] : List Value).toArray below meth c H locs 0 0 Q0 (F0 m 145 ls []) := by
      intro F4 V5 H locs ls hI hU hV hP hD hS hl
      refine lv_aload_n hx hb dX9_step_145 rfl (lv_at hl 0 rfl) ?_
      refine va_get (D := (dC, dI)) (ci := 10) (v := .ref (a 7)) (C := RX9) (T := TX9) (N := 46) hx hb hts in_m_step_X9 hown hK hP 0 rfl rfl 7 (by decide) (hts (.fieldLink RX9 31 "ServiceTreeModel" "state" "[I") (by decide +kernel)) (fun _ h9 => h9) rfl dX9_step_146 ?_
      refine lv_iload_n hx hb dX9_step_149 rfl (lv_at hl 1 rfl) ?_
      refine va_iald (n := 40) (f := F4 7) hx hb hK hP 8 7 rfl rfl (vp_in_nI (n := sv) (by omega) (by decide)) dX9_step_150 ?_
      refine lv_topi (fun x7 ex7 => ?_)
      refine lv_iconst (v := 5) hx hb dX9_step_151 (by decide) ?_
      refine lv_icmp_ne (tgt := 228) hx hb dX9_step_152 (by decide) (fun c8 => ?_) (fun c8 => ?_)
      · rw [hQ]
        exact W.vret hx hb hr (fun t ht hW => ⟨⟨(F4, V5), rfl, ⟨hI.mono (by omega), hU, hV, trivial⟩, by rw [ht]; exact hP, hD⟩, hS.F ht⟩) hS.2.2 dX9_step_228
      · refine lv_aload_n hx hb dX9_step_155 rfl (lv_at hl 0 rfl) ?_
        refine va_get (D := (dC, dI)) (ci := 10) (v := .int (V5 22)) (C := RX9) (T := TX9) (N := 46) hx hb hts in_m_step_X9 hown hK hP 0 rfl rfl 22 (by decide) (hts (.fieldLink RX9 129 "ServiceTreeModel" "tick" "I") (by decide +kernel)) (fun _ h9 => h9) rfl dX9_step_156 ?_
        refine lv_topi (fun x9 ex9 => ?_)
        refine lv_aload_n hx hb dX9_step_159 rfl (lv_at hl 0 rfl) ?_
        refine va_get (D := (dC, dI)) (ci := 10) (v := .ref (a 8)) (C := RX9) (T := TX9) (N := 46) hx hb hts in_m_step_X9 hown hK hP 0 rfl rfl 8 (by decide) (hts (.fieldLink RX9 34 "ServiceTreeModel" "since" "[I") (by decide +kernel)) (fun _ h9 => h9) rfl dX9_step_160 ?_
        refine lv_iload_n hx hb dX9_step_163 rfl (lv_at hl 1 rfl) ?_
        refine va_iald (n := 40) (f := F4 8) hx hb hK hP 9 8 rfl rfl (vp_in_nI (n := sv) (by omega) (by decide)) dX9_step_164 ?_
        refine lv_topi (fun x10 ex10 => ?_)
        refine lv_isub hx hb dX9_step_165 ?_
        refine lv_topi (fun x11 ex11 => ?_)
        refine lv_aload_n hx hb dX9_step_166 rfl (lv_at hl 0 rfl) ?_
        refine va_get (D := (dC, dI)) (ci := 10) (v := .ref (a 4)) (C := RX9) (T := TX9) (N := 46) hx hb hts in_m_step_X9 hown hK hP 0 rfl rfl 4 (by decide) (hts (.fieldLink RX9 22 "ServiceTreeModel" "delay" "[I") (by decide +kernel)) (fun _ h9 => h9) rfl dX9_step_167 ?_
        refine lv_iload_n hx hb dX9_step_170 rfl (lv_at hl 1 rfl) ?_
        refine va_iald (n := 40) (f := F4 4) hx hb hK hP 5 4 rfl rfl (vp_in_nI (n := sv) (by omega) (by decide)) dX9_step_171 ?_
        refine lv_topi (fun x12 ex12 => ?_)
        refine lv_icmp_lt (tgt := 228) hx hb dX9_step_172 (by decide) (fun c13 => ?_) (fun c13 => ?_)
        · rw [hQ]
          exact W.vret hx hb hr (fun t ht hW => ⟨⟨(F4, V5), rfl, ⟨hI.mono (by omega), hU, hV, trivial⟩, by rw [ht]; exact hP, hD⟩, hS.F ht⟩) hS.2.2 dX9_step_228
        · refine lv_aload_n hx hb dX9_step_175 rfl (lv_at hl 0 rfl) ?_
          refine va_get (D := (dC, dI)) (ci := 10) (v := .ref (a 10)) (C := RX9) (T := TX9) (N := 46) hx hb hts in_m_step_X9 hown hK hP 0 rfl rfl 10 (by decide) (hts (.fieldLink RX9 40 "ServiceTreeModel" "fails" "[I") (by decide +kernel)) (fun _ h9 => h9) rfl dX9_step_176 ?_
          refine lv_iload_n hx hb dX9_step_179 rfl (lv_at hl 1 rfl) ?_
          refine lv_dup2_11 hx hb dX9_step_180 rfl rfl ?_
          refine va_iald (n := 40) (f := F4 10) hx hb hK hP 11 10 rfl rfl (vp_in_nI (n := sv) (by omega) (by decide)) dX9_step_181 ?_
          refine lv_topi (fun x14 ex14 => ?_)
          refine lv_aload_n hx hb dX9_step_182 rfl (lv_at hl 0 rfl) ?_
          refine lv_iload_n hx hb dX9_step_183 rfl (lv_at hl 1 rfl) ?_
          have hFc := mw_free hD hS hA
          refine va_calli (va_runV (As := [.int (nI sv)]) (rest := [.int x14, .int (nI sv), .ref (a 10)]) ⟨hx, hb, hml, hown, hts⟩ (c_m_isFree l dC dI h a k F4 V5 n (b + 4) sv H.size hI.1 (by omega) (by omega)) (cwV 1 hts wc_m_step_m_isFree_237 rfl rfl rfl (by decide +kernel) ⟨Nat.le_of_ble_eq_true rfl, Nat.le_of_ble_eq_true rfl⟩) ⟨fun a9 U g mk q => by obtain ⟨q0, q1, qP, qK, qD⟩ := q; exact ⟨q0, q1, qP, va_K.moved (u := U) (U := U.calling g mk a9) (Vm.Alike.refl U.vm) qK, qD⟩, va_recv hK hP (ci := 10) (q0 := 0) rfl rfl, fun U hU hW => ⟨rfl, by rw [hU], by rw [hU]; exact hP, va_K.moved hW.alike hK, hD.weaken (fun _ _ _ _ => trivial)⟩⟩ rfl rfl hl.1 rfl (lv_room (Nat.le_of_ble_eq_true rfl)) dX9_step_184 ⟨Nat.le_of_ble_eq_true rfl, Nat.le_of_ble_eq_true rfl⟩) hS (fun q _ h => hFc q h) hFc (fun r15 u t H1 locs ht hvm hw hB hz1 hk1 hS => ?_)
          obtain ⟨F16, V17⟩ := u
          replace hP := hB.1
          rw [ht] at hP
          replace hD : va_D A (mW h a k F16 V17) := hB.2.weaken (fun _ q _ h9 => hFc q.1 h9)
          clear hB
          generalize H1 = H at hP hS ⊢
          replace hP : va_P (dC, dI) vwCl (mW h a k F16 V17) H := hP
          obtain ⟨hwF, hwV, hw⟩ : F16 = F4 ∧ V17 = V5 ∧ _ := hw
          rw [hwF, hwV] at hP hD
          have br15 := hw
          refine lv_if_eq (tgt := 194) hx hb dX9_step_187 (by decide) (fun c18 => ?_) (fun c18 => ?_)
          · refine lv_iconst (v := 1) hx hb dX9_step_194 (by decide) ?_
            refine lv_iadd hx hb dX9_step_195 ?_
            refine lv_topi (fun x19 ex19 => ?_)
            refine va_iast (n := 40) (f := F4 10) hx hb hK hP hD hS 11 10 rfl rfl (vp_in_nI (n := sv) (by omega) (by decide)) dX9_step_196 (fun H locs hP hD hS => ?_)
            rw [mW_set_10] at hP hD
            obtain ⟨F20, eF20⟩ : ∃ f9 : Nat → Nat → Int32, f9 = va_up F4 10 (upd (F4 10) (nI sv).toNatClampNeg x19) := ⟨_, rfl⟩
            rw [← eF20] at hP hD
            replace hI : StM n (b + 4) F V F20 V5 := ⟨by rw [eF20]; exact hI.1.setF (by decide), trivial⟩
            replace hU : ∀ j : Nat, j ∉ ([7, 8, 9, 10, 11, 12, 13, 14, 42, 43, 44] : List Nat) → F20 j = F j := by rw [eF20]; exact mw_up (by decide) hU
            refine lv_aload_n hx hb dX9_step_197 rfl (lv_at hl 0 rfl) ?_
            refine lv_iload_n hx hb dX9_step_198 rfl (lv_at hl 1 rfl) ?_
            refine lv_aload_n hx hb dX9_step_199 rfl (lv_at hl 0 rfl) ?_
            refine lv_iload_n hx hb dX9_step_200 rfl (lv_at hl 1 rfl) ?_
            have hFc := mw_free hD hS hA
            refine va_calli (va_runV (As := [.int (nI sv)]) (rest := [.int (nI sv), .ref h]) ⟨hx, hb, hml, hown, hts⟩ (c_m_isFree l dC dI h a k F20 V5 n (b + 4) sv H.size hI.1 (by omega) (by omega)) (cwV 1 hts wc_m_step_m_isFree_237 rfl rfl rfl (by decide +kernel) ⟨Nat.le_of_ble_eq_true rfl, Nat.le_of_ble_eq_true rfl⟩) ⟨fun a9 U g mk q => by obtain ⟨q0, q1, qP, qK, qD⟩ := q; exact ⟨q0, q1, qP, va_K.moved (u := U) (U := U.calling g mk a9) (Vm.Alike.refl U.vm) qK, qD⟩, va_recv hK hP (ci := 10) (q0 := 0) rfl rfl, fun U hU hW => ⟨rfl, by rw [hU], by rw [hU]; exact hP, va_K.moved hW.alike hK, hD.weaken (fun _ _ _ _ => trivial)⟩⟩ rfl rfl hl.1 rfl (lv_room (Nat.le_of_ble_eq_true rfl)) dX9_step_201 ⟨Nat.le_of_ble_eq_true rfl, Nat.le_of_ble_eq_true rfl⟩) hS (fun q _ h => hFc q h) hFc (fun r21 u t H1 locs ht hvm hw hB hz1 hk1 hS => ?_)
            obtain ⟨F22, V23⟩ := u
            replace hP := hB.1
            rw [ht] at hP
            replace hD : va_D A (mW h a k F22 V23) := hB.2.weaken (fun _ q _ h9 => hFc q.1 h9)
            clear hB
            generalize H1 = H at hP hS ⊢
            replace hP : va_P (dC, dI) vwCl (mW h a k F22 V23) H := hP
            obtain ⟨hwF, hwV, hw⟩ : F22 = F20 ∧ V23 = V5 ∧ _ := hw
            rw [hwF, hwV] at hP hD
            have br21 := hw
            refine lv_if_ne (tgt := 211) hx hb dX9_step_204 (by decide) (fun c24 => ?_) (fun c24 => ?_)
            · refine lv_aload_n hx hb dX9_step_211 rfl (lv_at hl 0 rfl) ?_
              refine va_get (D := (dC, dI)) (ci := 10) (v := .ref (a 1)) (C := RX9) (T := TX9) (N := 46) hx hb hts in_m_step_X9 hown hK hP 0 rfl rfl 1 (by decide) (hts (.fieldLink RX9 13 "ServiceTreeModel" "start" "[I") (by decide +kernel)) (fun _ h9 => h9) rfl dX9_step_212 ?_
              refine lv_iload_n hx hb dX9_step_215 rfl (lv_at hl 1 rfl) ?_
              refine va_iald (n := 40) (f := F20 1) hx hb hK hP 2 1 rfl rfl (vp_in_nI (n := sv) (by omega) (by decide)) dX9_step_216 ?_
              refine lv_topi (fun x25 ex25 => ?_)
              refine lv_if_ne (tgt := 224) hx hb dX9_step_217 (by decide) (fun c26 => ?_) (fun c26 => ?_)
              · refine lv_iconst (v := 1) hx hb dX9_step_224 (by decide) ?_
                have hFc := mw_free hD hS hA
                refine va_callv (va_runV (As := [.int (nI sv), .int 1]) (rest := []) ⟨hx, hb, hml, hown, hts⟩ (c_m_to l dC dI h a k F20 V5 n (b + 4) sv 1 H.size hI.1 (by omega) (by omega)) (cwV 2 hts wc_m_step_m_to_211 rfl rfl rfl (by decide +kernel) ⟨Nat.le_of_ble_eq_true rfl, Nat.le_of_ble_eq_true rfl⟩) ⟨fun a9 U g mk q => by obtain ⟨q0, q1, qP, qK, qD⟩ := q; exact ⟨q0, q1, qP, va_K.moved (u := U) (U := U.calling g mk a9) (Vm.Alike.refl U.vm) qK, qD⟩, va_recv hK hP (ci := 10) (q0 := 0) rfl rfl, fun U hU hW => ⟨rfl, by rw [hU], by rw [hU]; exact hP, va_K.moved hW.alike hK, hD.weaken (fun _ _ _ _ => trivial)⟩⟩ rfl rfl hl.1 rfl (lv_room (Nat.le_of_ble_eq_true rfl)) dX9_step_225 ⟨Nat.le_of_ble_eq_true rfl, Nat.le_of_ble_eq_true rfl⟩) hS (fun q _ h => hFc q h) hFc (fun u t H1 locs ht hvm hw hB hz1 hk1 hS => ?_)
                obtain ⟨F28, V29⟩ := u
                replace hP := hB.1
                rw [ht] at hP
                replace hD : va_D A (mW h a k F28 V29) := hB.2.weaken (fun _ q _ h9 => hFc q.1 h9)
                clear hB
                generalize H1 = H at hP hS ⊢
                replace hP : va_P (dC, dI) vwCl (mW h a k F28 V29) H := hP
                obtain ⟨hwI, hwU, hwV, hw⟩ := hw
                replace hU : ∀ j : Nat, j ∉ ([7, 8, 9, 10, 11, 12, 13, 14, 42, 43, 44] : List Nat) → F28 j = F j := mw_tr (by decide) hwU hU
                replace hV : ∀ j : Nat, j ∉ ([45] : List Nat) → V29 j = V j := mw_tr (by decide) hwV hV
                replace hI : StM n (b + 4 + 2) F V F28 V29 := hI.trans hwI
                rw [hQ]
                exact W.vret hx hb hr (fun t ht hW => ⟨⟨(F28, V29), rfl, ⟨hI.mono (by omega), hU, hV, trivial⟩, by rw [ht]; exact hP, hD⟩, hS.F ht⟩) hS.2.2 dX9_step_228
              · refine lv_iconst (v := 2) hx hb dX9_step_220 (by decide) ?_
                refine lv_goto (tgt := 225) hx hb dX9_step_221 (by decide) ?_
                have hFc := mw_free hD hS hA
                refine va_callv (va_runV (As := [.int (nI sv), .int 2]) (rest := []) ⟨hx, hb, hml, hown, hts⟩ (c_m_to l dC dI h a k F20 V5 n (b + 4) sv 2 H.size hI.1 (by omega) (by omega)) (cwV 2 hts wc_m_step_m_to_211 rfl rfl rfl (by decide +kernel) ⟨Nat.le_of_ble_eq_true rfl, Nat.le_of_ble_eq_true rfl⟩) ⟨fun a9 U g mk q => by obtain ⟨q0, q1, qP, qK, qD⟩ := q; exact ⟨q0, q1, qP, va_K.moved (u := U) (U := U.calling g mk a9) (Vm.Alike.refl U.vm) qK, qD⟩, va_recv hK hP (ci := 10) (q0 := 0) rfl rfl, fun U hU hW => ⟨rfl, by rw [hU], by rw [hU]; exact hP, va_K.moved hW.alike hK, hD.weaken (fun _ _ _ _ => trivial)⟩⟩ rfl rfl hl.1 rfl (lv_room (Nat.le_of_ble_eq_true rfl)) dX9_step_225 ⟨Nat.le_of_ble_eq_true rfl, Nat.le_of_ble_eq_true rfl⟩) hS (fun q _ h => hFc q h) hFc (fun u t H1 locs ht hvm hw hB hz1 hk1 hS => ?_)
                obtain ⟨F31, V32⟩ := u
                replace hP := hB.1
                rw [ht] at hP
                replace hD : va_D A (mW h a k F31 V32) := hB.2.weaken (fun _ q _ h9 => hFc q.1 h9)
                clear hB
                generalize H1 = H at hP hS ⊢
                replace hP : va_P (dC, dI) vwCl (mW h a k F31 V32) H := hP
                obtain ⟨hwI, hwU, hwV, hw⟩ := hw
                replace hU : ∀ j : Nat, j ∉ ([7, 8, 9, 10, 11, 12, 13, 14, 42, 43, 44] : List Nat) → F31 j = F j := mw_tr (by decide) hwU hU
                replace hV : ∀ j : Nat, j ∉ ([45] : List Nat) → V32 j = V j := mw_tr (by decide) hwV hV
                replace hI : StM n (b + 4 + 2) F V F31 V32 := hI.trans hwI
                rw [hQ]
                exact W.vret hx hb hr (fun t ht hW => ⟨⟨(F31, V32), rfl, ⟨hI.mono (by omega), hU, hV, trivial⟩, by rw [ht]; exact hP, hD⟩, hS.F ht⟩) hS.2.2 dX9_step_228
            · refine lv_iconst (v := 4) hx hb dX9_step_207 (by decide) ?_
              refine lv_goto (tgt := 225) hx hb dX9_step_208 (by decide) ?_
              have hFc := mw_free hD hS hA
              refine va_callv (va_runV (As := [.int (nI sv), .int 4]) (rest := []) ⟨hx, hb, hml, hown, hts⟩ (c_m_to l dC dI h a k F20 V5 n (b + 4) sv 4 H.size hI.1 (by omega) (by omega)) (cwV 2 hts wc_m_step_m_to_211 rfl rfl rfl (by decide +kernel) ⟨Nat.le_of_ble_eq_true rfl, Nat.le_of_ble_eq_true rfl⟩) ⟨fun a9 U g mk q => by obtain ⟨q0, q1, qP, qK, qD⟩ := q; exact ⟨q0, q1, qP, va_K.moved (u := U) (U := U.calling g mk a9) (Vm.Alike.refl U.vm) qK, qD⟩, va_recv hK hP (ci := 10) (q0 := 0) rfl rfl, fun U hU hW => ⟨rfl, by rw [hU], by rw [hU]; exact hP, va_K.moved hW.alike hK, hD.weaken (fun _ _ _ _ => trivial)⟩⟩ rfl rfl hl.1 rfl (lv_room (Nat.le_of_ble_eq_true rfl)) dX9_step_225 ⟨Nat.le_of_ble_eq_true rfl, Nat.le_of_ble_eq_true rfl⟩) hS (fun q _ h => hFc q h) hFc (fun u t H1 locs ht hvm hw hB hz1 hk1 hS => ?_)
              obtain ⟨F34, V35⟩ := u
              replace hP := hB.1
              rw [ht] at hP
              replace hD : va_D A (mW h a k F34 V35) := hB.2.weaken (fun _ q _ h9 => hFc q.1 h9)
              clear hB
              generalize H1 = H at hP hS ⊢
              replace hP : va_P (dC, dI) vwCl (mW h a k F34 V35) H := hP
              obtain ⟨hwI, hwU, hwV, hw⟩ := hw
              replace hU : ∀ j : Nat, j ∉ ([7, 8, 9, 10, 11, 12, 13, 14, 42, 43, 44] : List Nat) → F34 j = F j := mw_tr (by decide) hwU hU
              replace hV : ∀ j : Nat, j ∉ ([45] : List Nat) → V35 j = V j := mw_tr (by decide) hwV hV
              replace hI : StM n (b + 4 + 2) F V F34 V35 := hI.trans hwI
              rw [hQ]
              exact W.vret hx hb hr (fun t ht hW => ⟨⟨(F34, V35), rfl, ⟨hI.mono (by omega), hU, hV, trivial⟩, by rw [ht]; exact hP, hD⟩, hS.F ht⟩) hS.2.2 dX9_step_228
          · refine lv_iconst (v := 0) hx hb dX9_step_190 (by decide) ?_
            refine lv_goto (tgt := 195) hx hb dX9_step_191 (by decide) ?_
            refine lv_iadd hx hb dX9_step_195 ?_
            refine lv_topi (fun x36 ex36 => ?_)
            refine va_iast (n := 40) (f := F4 10) hx hb hK hP hD hS 11 10 rfl rfl (vp_in_nI (n := sv) (by omega) (by decide)) dX9_step_196 (fun H locs hP hD hS => ?_)
            rw [mW_set_10] at hP hD
            obtain ⟨F37, eF37⟩ : ∃ f9 : Nat → Nat → Int32, f9 = va_up F4 10 (upd (F4 10) (nI sv).toNatClampNeg x36) := ⟨_, rfl⟩
            rw [← eF37] at hP hD
            replace hI : StM n (b + 4) F V F37 V5 := ⟨by rw [eF37]; exact hI.1.setF (by decide), trivial⟩
            replace hU : ∀ j : Nat, j ∉ ([7, 8, 9, 10, 11, 12, 13, 14, 42, 43, 44] : List Nat) → F37 j = F j := by rw [eF37]; exact mw_up (by decide) hU
            refine lv_aload_n hx hb dX9_step_197 rfl (lv_at hl 0 rfl) ?_
            refine lv_iload_n hx hb dX9_step_198 rfl (lv_at hl 1 rfl) ?_
            refine lv_aload_n hx hb dX9_step_199 rfl (lv_at hl 0 rfl) ?_
            refine lv_iload_n hx hb dX9_step_200 rfl (lv_at hl 1 rfl) ?_
            have hFc := mw_free hD hS hA
            refine va_calli (va_runV (As := [.int (nI sv)]) (rest := [.int (nI sv), .ref h]) ⟨hx, hb, hml, hown, hts⟩ (c_m_isFree l dC dI h a k F37 V5 n (b + 4) sv H.size hI.1 (by omega) (by omega)) (cwV 1 hts wc_m_step_m_isFree_237 rfl rfl rfl (by decide +kernel) ⟨Nat.le_of_ble_eq_true rfl, Nat.le_of_ble_eq_true rfl⟩) ⟨fun a9 U g mk q => by obtain ⟨q0, q1, qP, qK, qD⟩ := q; exact ⟨q0, q1, qP, va_K.moved (u := U) (U := U.calling g mk a9) (Vm.Alike.refl U.vm) qK, qD⟩, va_recv hK hP (ci := 10) (q0 := 0) rfl rfl, fun U hU hW => ⟨rfl, by rw [hU], by rw [hU]; exact hP, va_K.moved hW.alike hK, hD.weaken (fun _ _ _ _ => trivial)⟩⟩ rfl rfl hl.1 rfl (lv_room (Nat.le_of_ble_eq_true rfl)) dX9_step_201 ⟨Nat.le_of_ble_eq_true rfl, Nat.le_of_ble_eq_true rfl⟩) hS (fun q _ h => hFc q h) hFc (fun r38 u t H1 locs ht hvm hw hB hz1 hk1 hS => ?_)
            obtain ⟨F39, V40⟩ := u
            replace hP := hB.1
            rw [ht] at hP
            replace hD : va_D A (mW h a k F39 V40) := hB.2.weaken (fun _ q _ h9 => hFc q.1 h9)
            clear hB
            generalize H1 = H at hP hS ⊢
            replace hP : va_P (dC, dI) vwCl (mW h a k F39 V40) H := hP
            obtain ⟨hwF, hwV, hw⟩ : F39 = F37 ∧ V40 = V5 ∧ _ := hw
            rw [hwF, hwV] at hP hD
            have br38 := hw
            refine lv_if_ne (tgt := 211) hx hb dX9_step_204 (by decide) (fun c41 => ?_) (fun c41 => ?_)
            · refine lv_aload_n hx hb dX9_step_211 rfl (lv_at hl 0 rfl) ?_
              refine va_get (D := (dC, dI)) (ci := 10) (v := .ref (a 1)) (C := RX9) (T := TX9) (N := 46) hx hb hts in_m_step_X9 hown hK hP 0 rfl rfl 1 (by decide) (hts (.fieldLink RX9 13 "ServiceTreeModel" "start" "[I") (by decide +kernel)) (fun _ h9 => h9) rfl dX9_step_212 ?_
              refine lv_iload_n hx hb dX9_step_215 rfl (lv_at hl 1 rfl) ?_
              refine va_iald (n := 40) (f := F37 1) hx hb hK hP 2 1 rfl rfl (vp_in_nI (n := sv) (by omega) (by decide)) dX9_step_216 ?_
              refine lv_topi (fun x42 ex42 => ?_)
              refine lv_if_ne (tgt := 224) hx hb dX9_step_217 (by decide) (fun c43 => ?_) (fun c43 => ?_)
              · refine lv_iconst (v := 1) hx hb dX9_step_224 (by decide) ?_
                have hFc := mw_free hD hS hA
                refine va_callv (va_runV (As := [.int (nI sv), .int 1]) (rest := []) ⟨hx, hb, hml, hown, hts⟩ (c_m_to l dC dI h a k F37 V5 n (b + 4) sv 1 H.size hI.1 (by omega) (by omega)) (cwV 2 hts wc_m_step_m_to_211 rfl rfl rfl (by decide +kernel) ⟨Nat.le_of_ble_eq_true rfl, Nat.le_of_ble_eq_true rfl⟩) ⟨fun a9 U g mk q => by obtain ⟨q0, q1, qP, qK, qD⟩ := q; exact ⟨q0, q1, qP, va_K.moved (u := U) (U := U.calling g mk a9) (Vm.Alike.refl U.vm) qK, qD⟩, va_recv hK hP (ci := 10) (q0 := 0) rfl rfl, fun U hU hW => ⟨rfl, by rw [hU], by rw [hU]; exact hP, va_K.moved hW.alike hK, hD.weaken (fun _ _ _ _ => trivial)⟩⟩ rfl rfl hl.1 rfl (lv_room (Nat.le_of_ble_eq_true rfl)) dX9_step_225 ⟨Nat.le_of_ble_eq_true rfl, Nat.le_of_ble_eq_true rfl⟩) hS (fun q _ h => hFc q h) hFc (fun u t H1 locs ht hvm hw hB hz1 hk1 hS => ?_)
                obtain ⟨F45, V46⟩ := u
                replace hP := hB.1
                rw [ht] at hP
                replace hD : va_D A (mW h a k F45 V46) := hB.2.weaken (fun _ q _ h9 => hFc q.1 h9)
                clear hB
                generalize H1 = H at hP hS ⊢
                replace hP : va_P (dC, dI) vwCl (mW h a k F45 V46) H := hP
                obtain ⟨hwI, hwU, hwV, hw⟩ := hw
                replace hU : ∀ j : Nat, j ∉ ([7, 8, 9, 10, 11, 12, 13, 14, 42, 43, 44] : List Nat) → F45 j = F j := mw_tr (by decide) hwU hU
                replace hV : ∀ j : Nat, j ∉ ([45] : List Nat) → V46 j = V j := mw_tr (by decide) hwV hV
                replace hI : StM n (b + 4 + 2) F V F45 V46 := hI.trans hwI
                rw [hQ]
                exact W.vret hx hb hr (fun t ht hW => ⟨⟨(F45, V46), rfl, ⟨hI.mono (by omega), hU, hV, trivial⟩, by rw [ht]; exact hP, hD⟩, hS.F ht⟩) hS.2.2 dX9_step_228
              · refine lv_iconst (v := 2) hx hb dX9_step_220 (by decide) ?_
                refine lv_goto (tgt := 225) hx hb dX9_step_221 (by decide) ?_
                have hFc := mw_free hD hS hA
                refine va_callv (va_runV (As := [.int (nI sv), .int 2]) (rest := []) ⟨hx, hb, hml, hown, hts⟩ (c_m_to l dC dI h a k F37 V5 n (b + 4) sv 2 H.size hI.1 (by omega) (by omega)) (cwV 2 hts wc_m_step_m_to_211 rfl rfl rfl (by decide +kernel) ⟨Nat.le_of_ble_eq_true rfl, Nat.le_of_ble_eq_true rfl⟩) ⟨fun a9 U g mk q => by obtain ⟨q0, q1, qP, qK, qD⟩ := q; exact ⟨q0, q1, qP, va_K.moved (u := U) (U := U.calling g mk a9) (Vm.Alike.refl U.vm) qK, qD⟩, va_recv hK hP (ci := 10) (q0 := 0) rfl rfl, fun U hU hW => ⟨rfl, by rw [hU], by rw [hU]; exact hP, va_K.moved hW.alike hK, hD.weaken (fun _ _ _ _ => trivial)⟩⟩ rfl rfl hl.1 rfl (lv_room (Nat.le_of_ble_eq_true rfl)) dX9_step_225 ⟨Nat.le_of_ble_eq_true rfl, Nat.le_of_ble_eq_true rfl⟩) hS (fun q _ h => hFc q h) hFc (fun u t H1 locs ht hvm hw hB hz1 hk1 hS => ?_)
                obtain ⟨F48, V49⟩ := u
                replace hP := hB.1
                rw [ht] at hP
                replace hD : va_D A (mW h a k F48 V49) := hB.2.weaken (fun _ q _ h9 => hFc q.1 h9)
                clear hB
                generalize H1 = H at hP hS ⊢
                replace hP : va_P (dC, dI) vwCl (mW h a k F48 V49) H := hP
                obtain ⟨hwI, hwU, hwV, hw⟩ := hw
                replace hU : ∀ j : Nat, j ∉ ([7, 8, 9, 10, 11, 12, 13, 14, 42, 43, 44] : List Nat) → F48 j = F j := mw_tr (by decide) hwU hU
                replace hV : ∀ j : Nat, j ∉ ([45] : List Nat) → V49 j = V j := mw_tr (by decide) hwV hV
                replace hI : StM n (b + 4 + 2) F V F48 V49 := hI.trans hwI
                rw [hQ]
                exact W.vret hx hb hr (fun t ht hW => ⟨⟨(F48, V49), rfl, ⟨hI.mono (by omega), hU, hV, trivial⟩, by rw [ht]; exact hP, hD⟩, hS.F ht⟩) hS.2.2 dX9_step_228
            · refine lv_iconst (v := 4) hx hb dX9_step_207 (by decide) ?_
              refine lv_goto (tgt := 225) hx hb dX9_step_208 (by decide) ?_
              have hFc := mw_free hD hS hA
              refine va_callv (va_runV (As := [.int (nI sv), .int 4]) (rest := []) ⟨hx, hb, hml, hown, hts⟩ (c_m_to l dC dI h a k F37 V5 n (b + 4) sv 4 H.size hI.1 (by omega) (by omega)) (cwV 2 hts wc_m_step_m_to_211 rfl rfl rfl (by decide +kernel) ⟨Nat.le_of_ble_eq_true rfl, Nat.le_of_ble_eq_true rfl⟩) ⟨fun a9 U g mk q => by obtain ⟨q0, q1, qP, qK, qD⟩ := q; exact ⟨q0, q1, qP, va_K.moved (u := U) (U := U.calling g mk a9) (Vm.Alike.refl U.vm) qK, qD⟩, va_recv hK hP (ci := 10) (q0 := 0) rfl rfl, fun U hU hW => ⟨rfl, by rw [hU], by rw [hU]; exact hP, va_K.moved hW.alike hK, hD.weaken (fun _ _ _ _ => trivial)⟩⟩ rfl rfl hl.1 rfl (lv_room (Nat.le_of_ble_eq_true rfl)) dX9_step_225 ⟨Nat.le_of_ble_eq_true rfl, Nat.le_of_ble_eq_true rfl⟩) hS (fun q _ h => hFc q h) hFc (fun u t H1 locs ht hvm hw hB hz1 hk1 hS => ?_)
              obtain ⟨F51, V52⟩ := u
              replace hP := hB.1
              rw [ht] at hP
              replace hD : va_D A (mW h a k F51 V52) := hB.2.weaken (fun _ q _ h9 => hFc q.1 h9)
              clear hB
              generalize H1 = H at hP hS ⊢
              replace hP : va_P (dC, dI) vwCl (mW h a k F51 V52) H := hP
              obtain ⟨hwI, hwU, hwV, hw⟩ := hw
              replace hU : ∀ j : Nat, j ∉ ([7, 8, 9, 10, 11, 12, 13, 14, 42, 43, 44] : List Nat) → F51 j = F j := mw_tr (by decide) hwU hU
              replace hV : ∀ j : Nat, j ∉ ([45] : List Nat) → V52 j = V j := mw_tr (by decide) hwV hV
              replace hI : StM n (b + 4 + 2) F V F51 V52 := hI.trans hwI
              rw [hQ]
              exact W.vret hx hb hr (fun t ht hW => ⟨⟨(F51, V52), rfl, ⟨hI.mono (by omega), hU, hV, trivial⟩, by rw [ht]; exact hP, hD⟩, hS.F ht⟩) hS.2.2 dX9_step_228
    refine lv_aload_n hx hb dX9_step_75 rfl (lv_at hl 0 rfl) ?_
    refine va_get (D := (dC, dI)) (ci := 10) (v := .ref (a 7)) (C := RX9) (T := TX9) (N := 46) hx hb hts in_m_step_X9 hown hK hP 0 rfl rfl 7 (by decide) (hts (.fieldLink RX9 31 "ServiceTreeModel" "state" "[I") (by decide +kernel)) (fun _ h9 => h9) rfl dX9_step_76 ?_
    refine lv_iload_n hx hb dX9_step_79 rfl (lv_at hl 1 rfl) ?_
    refine va_iald (n := 40) (f := F1 7) hx hb hK hP 8 7 rfl rfl (vp_in_nI (n := sv) (by omega) (by decide)) dX9_step_80 ?_
    refine lv_topi (fun x53 ex53 => ?_)
    refine lv_iconst (v := 2) hx hb dX9_step_81 (by decide) ?_
    refine lv_icmp_ne (tgt := 145) hx hb dX9_step_82 (by decide) (fun c54 => ?_) (fun c54 => ?_)
    · exact jn6 F1 V2 _ _ _ (hI.mono (by omega)) hU hV hP hD hS (lv_sub hl [0, 1] rfl)
    · refine lv_aload_n hx hb dX9_step_85 rfl (lv_at hl 0 rfl) ?_
      refine va_get (D := (dC, dI)) (ci := 10) (v := .ref (a 11)) (C := RX9) (T := TX9) (N := 46) hx hb hts in_m_step_X9 hown hK hP 0 rfl rfl 11 (by decide) (hts (.fieldLink RX9 43 "ServiceTreeModel" "hasEnded" "[Z") (by decide +kernel)) (fun _ h9 => h9) rfl dX9_step_86 ?_
      refine lv_iload_n hx hb dX9_step_89 rfl (lv_at hl 1 rfl) ?_
      refine va_zald (n := 40) (f := F1 11) hx hb hK hP 12 11 rfl rfl (vp_in_nI (n := sv) (by omega) (by decide)) dX9_step_90 ?_
      refine lv_topi (fun x55 ex55 => ?_)
      refine lv_if_ne (tgt := 145) hx hb dX9_step_91 (by decide) (fun c56 => ?_) (fun c56 => ?_)
      · exact jn6 F1 V2 _ _ _ (hI.mono (by omega)) hU hV hP hD hS (lv_sub hl [0, 1] rfl)
      · refine lv_aload_n hx hb dX9_step_94 rfl (lv_at hl 0 rfl) ?_
        refine va_get (D := (dC, dI)) (ci := 10) (v := .ref (a 12)) (C := RX9) (T := TX9) (N := 46) hx hb hts in_m_step_X9 hown hK hP 0 rfl rfl 12 (by decide) (hts (.fieldLink RX9 47 "ServiceTreeModel" "lives" "[I") (by decide +kernel)) (fun _ h9 => h9) rfl dX9_step_95 ?_
        refine lv_iload_n hx hb dX9_step_98 rfl (lv_at hl 1 rfl) ?_
        refine va_iald (n := 40) (f := F1 12) hx hb hK hP 13 12 rfl rfl (vp_in_nI (n := sv) (by omega) (by decide)) dX9_step_99 ?_
        refine lv_topi (fun x57 ex57 => ?_)
        refine lv_istore_n (lv' := [(2, .int x57), (0, .ref h), (1, .int (nI sv))]) hx hb dX9_step_100 rfl hl (by decide) rfl (fun ls hl => ?_)
        refine lv_iload_n hx hb dX9_step_101 rfl (lv_at hl 0 rfl) ?_
        refine lv_if_le (tgt := 145) hx hb dX9_step_102 (by decide) (fun c58 => ?_) (fun c58 => ?_)
        · exact jn6 F1 V2 _ _ _ (hI.mono (by omega)) hU hV hP hD hS (lv_sub hl [1, 2] rfl)
        · refine lv_aload_n hx hb dX9_step_105 rfl (lv_at hl 1 rfl) ?_
          refine va_get (D := (dC, dI)) (ci := 10) (v := .int (V2 22)) (C := RX9) (T := TX9) (N := 46) hx hb hts in_m_step_X9 hown hK hP 0 rfl rfl 22 (by decide) (hts (.fieldLink RX9 129 "ServiceTreeModel" "tick" "I") (by decide +kernel)) (fun _ h9 => h9) rfl dX9_step_106 ?_
          refine lv_topi (fun x59 ex59 => ?_)
          refine lv_aload_n hx hb dX9_step_109 rfl (lv_at hl 1 rfl) ?_
          refine va_get (D := (dC, dI)) (ci := 10) (v := .ref (a 8)) (C := RX9) (T := TX9) (N := 46) hx hb hts in_m_step_X9 hown hK hP 0 rfl rfl 8 (by decide) (hts (.fieldLink RX9 34 "ServiceTreeModel" "since" "[I") (by decide +kernel)) (fun _ h9 => h9) rfl dX9_step_110 ?_
          refine lv_iload_n hx hb dX9_step_113 rfl (lv_at hl 2 rfl) ?_
          refine va_iald (n := 40) (f := F1 8) hx hb hK hP 9 8 rfl rfl (vp_in_nI (n := sv) (by omega) (by decide)) dX9_step_114 ?_
          refine lv_topi (fun x60 ex60 => ?_)
          refine lv_isub hx hb dX9_step_115 ?_
          refine lv_topi (fun x61 ex61 => ?_)
          refine lv_iload_n hx hb dX9_step_116 rfl (lv_at hl 0 rfl) ?_
          refine lv_icmp_lt (tgt := 145) hx hb dX9_step_117 (by decide) (fun c62 => ?_) (fun c62 => ?_)
          · exact jn6 F1 V2 _ _ _ (hI.mono (by omega)) hU hV hP hD hS (lv_sub hl [1, 2] rfl)
          · refine lv_aload_n hx hb dX9_step_120 rfl (lv_at hl 1 rfl) ?_
            refine va_get (D := (dC, dI)) (ci := 10) (v := .ref (a 0)) (C := RX9) (T := TX9) (N := 46) hx hb hts in_m_step_X9 hown hK hP 0 rfl rfl 0 (by decide) (hts (.fieldLink RX9 9 "ServiceTreeModel" "kind" "[I") (by decide +kernel)) (fun _ h9 => h9) rfl dX9_step_121 ?_
            refine lv_iload_n hx hb dX9_step_124 rfl (lv_at hl 2 rfl) ?_
            refine va_iald (n := 40) (f := F1 0) hx hb hK hP 1 0 rfl rfl (vp_in_nI (n := sv) (by omega) (by decide)) dX9_step_125 ?_
            refine lv_topi (fun x63 ex63 => ?_)
            refine lv_iconst (v := 1) hx hb dX9_step_126 (by decide) ?_
            refine lv_icmp_ne (tgt := 140) hx hb dX9_step_127 (by decide) (fun c64 => ?_) (fun c64 => ?_)
            · refine lv_aload_n hx hb dX9_step_140 rfl (lv_at hl 1 rfl) ?_
              refine lv_iload_n hx hb dX9_step_141 rfl (lv_at hl 2 rfl) ?_
              have hFc := mw_free hD hS hA
              refine va_callv (va_runV (As := [.int (nI sv)]) (rest := []) ⟨hx, hb, hml, hown, hts⟩ (c_m_failsNow l dC dI h a k F1 V2 n (b + 2) sv H.size hI.1 (by omega) (by omega)) (cwV 1 hts wc_m_step_m_failsNow_234 rfl rfl rfl (by decide +kernel) ⟨Nat.le_of_ble_eq_true rfl, Nat.le_of_ble_eq_true rfl⟩) ⟨fun a9 U g mk q => by obtain ⟨q0, q1, qP, qK, qD⟩ := q; exact ⟨q0, q1, qP, va_K.moved (u := U) (U := U.calling g mk a9) (Vm.Alike.refl U.vm) qK, qD⟩, va_recv hK hP (ci := 10) (q0 := 0) rfl rfl, fun U hU hW => ⟨rfl, by rw [hU], by rw [hU]; exact hP, va_K.moved hW.alike hK, hD.weaken (fun _ _ _ _ => trivial)⟩⟩ rfl rfl hl.1 rfl (lv_room (Nat.le_of_ble_eq_true rfl)) dX9_step_142 ⟨Nat.le_of_ble_eq_true rfl, Nat.le_of_ble_eq_true rfl⟩) hS (fun q _ h => hFc q h) hFc (fun u t H1 locs ht hvm hw hB hz1 hk1 hS => ?_)
              obtain ⟨F66, V67⟩ := u
              replace hP := hB.1
              rw [ht] at hP
              replace hD : va_D A (mW h a k F66 V67) := hB.2.weaken (fun _ q _ h9 => hFc q.1 h9)
              clear hB
              generalize H1 = H at hP hS ⊢
              replace hP : va_P (dC, dI) vwCl (mW h a k F66 V67) H := hP
              obtain ⟨hwI, hwU, hwV, hw⟩ := hw
              replace hU : ∀ j : Nat, j ∉ ([7, 8, 9, 10, 11, 12, 13, 14, 42, 43, 44] : List Nat) → F66 j = F j := mw_tr (by decide) hwU hU
              replace hV : ∀ j : Nat, j ∉ ([45] : List Nat) → V67 j = V j := mw_tr (by decide) hwV hV
              replace hI : StM n (b + 2 + 2) F V F66 V67 := hI.trans hwI
              exact jn6 F66 V67 _ _ _ (hI.mono (by omega)) hU hV hP hD hS (lv_sub hl [1, 2] rfl)
            · refine lv_aload_n hx hb dX9_step_130 rfl (lv_at hl 1 rfl) ?_
              refine va_get (D := (dC, dI)) (ci := 10) (v := .ref (a 11)) (C := RX9) (T := TX9) (N := 46) hx hb hts in_m_step_X9 hown hK hP 0 rfl rfl 11 (by decide) (hts (.fieldLink RX9 43 "ServiceTreeModel" "hasEnded" "[Z") (by decide +kernel)) (fun _ h9 => h9) rfl dX9_step_131 ?_
              refine lv_iload_n hx hb dX9_step_134 rfl (lv_at hl 2 rfl) ?_
              refine lv_iconst (v := 1) hx hb dX9_step_135 (by decide) ?_
              refine va_zast (n := 40) (f := F1 11) hx hb hK hP hD hS 12 11 rfl rfl (vp_in_nI (n := sv) (by omega) (by decide)) dX9_step_136 (fun H locs hP hD hS => ?_)
              rw [mW_set_11] at hP hD
              obtain ⟨F68, eF68⟩ : ∃ f9 : Nat → Nat → Int32, f9 = va_up F1 11 (upd (F1 11) (nI sv).toNatClampNeg (vp_nar .boolean 1)) := ⟨_, rfl⟩
              rw [← eF68] at hP hD
              replace hI : StM n (b + 2) F V F68 V2 := ⟨by rw [eF68]; exact hI.1.setF (by decide), trivial⟩
              replace hU : ∀ j : Nat, j ∉ ([7, 8, 9, 10, 11, 12, 13, 14, 42, 43, 44] : List Nat) → F68 j = F j := by rw [eF68]; exact mw_up (by decide) hU
              refine lv_goto (tgt := 145) hx hb dX9_step_137 (by decide) ?_
              exact jn6 F68 V2 _ _ _ (hI.mono (by omega)) hU hV hP hD hS (lv_sub hl [1, 2] rfl)
  refine lv_aload_n hx hb dX9_step_0 rfl (lv_at hl 0 rfl) ?_
  refine va_get (D := (dC, dI)) (ci := 10) (v := .ref (a 7)) (C := RX9) (T := TX9) (N := 46) hx hb hts in_m_step_X9 hown hK hP 0 rfl rfl 7 (by decide) (hts (.fieldLink RX9 31 "ServiceTreeModel" "state" "[I") (by decide +kernel)) (fun _ h9 => h9) rfl dX9_step_1 ?_
  refine lv_iload_n hx hb dX9_step_4 rfl (lv_at hl 1 rfl) ?_
  refine va_iald (n := 40) (f := F 7) hx hb hK hP 8 7 rfl rfl (vp_in_nI (n := sv) (by omega) (by decide)) dX9_step_5 ?_
  refine lv_topi (fun x69 ex69 => ?_)
  refine lv_iconst (v := 1) hx hb dX9_step_6 (by decide) ?_
  refine lv_icmp_ne (tgt := 39) hx hb dX9_step_7 (by decide) (fun c70 => ?_) (fun c70 => ?_)
  · refine lv_aload_n hx hb dX9_step_39 rfl (lv_at hl 0 rfl) ?_
    refine va_get (D := (dC, dI)) (ci := 10) (v := .ref (a 7)) (C := RX9) (T := TX9) (N := 46) hx hb hts in_m_step_X9 hown hK hP 0 rfl rfl 7 (by decide) (hts (.fieldLink RX9 31 "ServiceTreeModel" "state" "[I") (by decide +kernel)) (fun _ h9 => h9) rfl dX9_step_40 ?_
    refine lv_iload_n hx hb dX9_step_43 rfl (lv_at hl 1 rfl) ?_
    refine va_iald (n := 40) (f := F 7) hx hb hK hP 8 7 rfl rfl (vp_in_nI (n := sv) (by omega) (by decide)) dX9_step_44 ?_
    refine p1_topr (v := .int x69) (congrArg Value.int ex69.symm) ?_
    refine lv_iconst (v := 3) hx hb dX9_step_45 (by decide) ?_
    refine lv_icmp_ne (tgt := 75) hx hb dX9_step_46 (by decide) (fun c72 => ?_) (fun c72 => ?_)
    · exact jn3 F V _ _ _ (hI.mono (by omega)) hU hV hP hD hS (lv_sub hl [0, 1] rfl)
    · refine lv_aload_n hx hb dX9_step_49 rfl (lv_at hl 0 rfl) ?_
      refine va_get (D := (dC, dI)) (ci := 10) (v := .int (V 22)) (C := RX9) (T := TX9) (N := 46) hx hb hts in_m_step_X9 hown hK hP 0 rfl rfl 22 (by decide) (hts (.fieldLink RX9 129 "ServiceTreeModel" "tick" "I") (by decide +kernel)) (fun _ h9 => h9) rfl dX9_step_50 ?_
      refine lv_topi (fun x73 ex73 => ?_)
      refine lv_aload_n hx hb dX9_step_53 rfl (lv_at hl 0 rfl) ?_
      refine va_get (D := (dC, dI)) (ci := 10) (v := .ref (a 8)) (C := RX9) (T := TX9) (N := 46) hx hb hts in_m_step_X9 hown hK hP 0 rfl rfl 8 (by decide) (hts (.fieldLink RX9 34 "ServiceTreeModel" "since" "[I") (by decide +kernel)) (fun _ h9 => h9) rfl dX9_step_54 ?_
      refine lv_iload_n hx hb dX9_step_57 rfl (lv_at hl 1 rfl) ?_
      refine va_iald (n := 40) (f := F 8) hx hb hK hP 9 8 rfl rfl (vp_in_nI (n := sv) (by omega) (by decide)) dX9_step_58 ?_
      refine lv_topi (fun x74 ex74 => ?_)
      refine lv_isub hx hb dX9_step_59 ?_
      refine lv_topi (fun x75 ex75 => ?_)
      refine lv_aload_n hx hb dX9_step_60 rfl (lv_at hl 0 rfl) ?_
      refine va_get (D := (dC, dI)) (ci := 10) (v := .ref (a 2)) (C := RX9) (T := TX9) (N := 46) hx hb hts in_m_step_X9 hown hK hP 0 rfl rfl 2 (by decide) (hts (.fieldLink RX9 16 "ServiceTreeModel" "stop" "[I") (by decide +kernel)) (fun _ h9 => h9) rfl dX9_step_61 ?_
      refine lv_iload_n hx hb dX9_step_64 rfl (lv_at hl 1 rfl) ?_
      refine va_iald (n := 40) (f := F 2) hx hb hK hP 3 2 rfl rfl (vp_in_nI (n := sv) (by omega) (by decide)) dX9_step_65 ?_
      refine lv_topi (fun x76 ex76 => ?_)
      refine lv_icmp_lt (tgt := 75) hx hb dX9_step_66 (by decide) (fun c77 => ?_) (fun c77 => ?_)
      · exact jn3 F V _ _ _ (hI.mono (by omega)) hU hV hP hD hS (lv_sub hl [0, 1] rfl)
      · refine lv_aload_n hx hb dX9_step_69 rfl (lv_at hl 0 rfl) ?_
        refine lv_iload_n hx hb dX9_step_70 rfl (lv_at hl 1 rfl) ?_
        refine lv_iconst (v := 0) hx hb dX9_step_71 (by decide) ?_
        have hFc := mw_free hD hS hA
        refine va_callv (va_runV (As := [.int (nI sv), .int 0]) (rest := []) ⟨hx, hb, hml, hown, hts⟩ (c_m_to l dC dI h a k F V n (b) sv 0 s.heap.size hI.1 (by omega) (by omega)) (cwV 2 hts wc_m_step_m_to_211 rfl rfl rfl (by decide +kernel) ⟨Nat.le_of_ble_eq_true rfl, Nat.le_of_ble_eq_true rfl⟩) ⟨fun a9 U g mk q => by obtain ⟨q0, q1, qP, qK, qD⟩ := q; exact ⟨q0, q1, qP, va_K.moved (u := U) (U := U.calling g mk a9) (Vm.Alike.refl U.vm) qK, qD⟩, va_recv hK hP (ci := 10) (q0 := 0) rfl rfl, fun U hU hW => ⟨rfl, by rw [hU], by rw [hU]; exact hP, va_K.moved hW.alike hK, hD.weaken (fun _ _ _ _ => trivial)⟩⟩ rfl rfl hl.1 rfl (lv_room (Nat.le_of_ble_eq_true rfl)) dX9_step_72 ⟨Nat.le_of_ble_eq_true rfl, Nat.le_of_ble_eq_true rfl⟩) hS (fun q _ h => hFc q h) hFc (fun u t H1 locs ht hvm hw hB hz1 hk1 hS => ?_)
        obtain ⟨F79, V80⟩ := u
        replace hP := hB.1
        rw [ht] at hP
        replace hD : va_D A (mW h a k F79 V80) := hB.2.weaken (fun _ q _ h9 => hFc q.1 h9)
        clear hB
        generalize H1 = H at hP hS ⊢
        replace hP : va_P (dC, dI) vwCl (mW h a k F79 V80) H := hP
        obtain ⟨hwI, hwU, hwV, hw⟩ := hw
        replace hU : ∀ j : Nat, j ∉ ([7, 8, 9, 10, 11, 12, 13, 14, 42, 43, 44] : List Nat) → F79 j = F j := mw_tr (by decide) hwU hU
        replace hV : ∀ j : Nat, j ∉ ([45] : List Nat) → V80 j = V j := mw_tr (by decide) hwV hV
        replace hI : StM n (b + 2) F V F79 V80 := hI.trans hwI
        exact jn3 F79 V80 _ _ _ (hI.mono (by omega)) hU hV hP hD hS (lv_sub hl [0, 1] rfl)
  · refine lv_aload_n hx hb dX9_step_10 rfl (lv_at hl 0 rfl) ?_
    refine va_get (D := (dC, dI)) (ci := 10) (v := .int (V 22)) (C := RX9) (T := TX9) (N := 46) hx hb hts in_m_step_X9 hown hK hP 0 rfl rfl 22 (by decide) (hts (.fieldLink RX9 129 "ServiceTreeModel" "tick" "I") (by decide +kernel)) (fun _ h9 => h9) rfl dX9_step_11 ?_
    refine lv_topi (fun x81 ex81 => ?_)
    refine lv_aload_n hx hb dX9_step_14 rfl (lv_at hl 0 rfl) ?_
    refine va_get (D := (dC, dI)) (ci := 10) (v := .ref (a 8)) (C := RX9) (T := TX9) (N := 46) hx hb hts in_m_step_X9 hown hK hP 0 rfl rfl 8 (by decide) (hts (.fieldLink RX9 34 "ServiceTreeModel" "since" "[I") (by decide +kernel)) (fun _ h9 => h9) rfl dX9_step_15 ?_
    refine lv_iload_n hx hb dX9_step_18 rfl (lv_at hl 1 rfl) ?_
    refine va_iald (n := 40) (f := F 8) hx hb hK hP 9 8 rfl rfl (vp_in_nI (n := sv) (by omega) (by decide)) dX9_step_19 ?_
    refine lv_topi (fun x82 ex82 => ?_)
    refine lv_isub hx hb dX9_step_20 ?_
    refine lv_topi (fun x83 ex83 => ?_)
    refine lv_aload_n hx hb dX9_step_21 rfl (lv_at hl 0 rfl) ?_
    refine va_get (D := (dC, dI)) (ci := 10) (v := .ref (a 1)) (C := RX9) (T := TX9) (N := 46) hx hb hts in_m_step_X9 hown hK hP 0 rfl rfl 1 (by decide) (hts (.fieldLink RX9 13 "ServiceTreeModel" "start" "[I") (by decide +kernel)) (fun _ h9 => h9) rfl dX9_step_22 ?_
    refine lv_iload_n hx hb dX9_step_25 rfl (lv_at hl 1 rfl) ?_
    refine va_iald (n := 40) (f := F 1) hx hb hK hP 2 1 rfl rfl (vp_in_nI (n := sv) (by omega) (by decide)) dX9_step_26 ?_
    refine lv_topi (fun x84 ex84 => ?_)
    refine lv_icmp_lt (tgt := 39) hx hb dX9_step_27 (by decide) (fun c85 => ?_) (fun c85 => ?_)
    · refine lv_aload_n hx hb dX9_step_39 rfl (lv_at hl 0 rfl) ?_
      refine va_get (D := (dC, dI)) (ci := 10) (v := .ref (a 7)) (C := RX9) (T := TX9) (N := 46) hx hb hts in_m_step_X9 hown hK hP 0 rfl rfl 7 (by decide) (hts (.fieldLink RX9 31 "ServiceTreeModel" "state" "[I") (by decide +kernel)) (fun _ h9 => h9) rfl dX9_step_40 ?_
      refine lv_iload_n hx hb dX9_step_43 rfl (lv_at hl 1 rfl) ?_
      refine va_iald (n := 40) (f := F 7) hx hb hK hP 8 7 rfl rfl (vp_in_nI (n := sv) (by omega) (by decide)) dX9_step_44 ?_
      refine p1_topr (v := .int x69) (congrArg Value.int ex69.symm) ?_
      refine lv_iconst (v := 3) hx hb dX9_step_45 (by decide) ?_
      refine lv_icmp_ne (tgt := 75) hx hb dX9_step_46 (by decide) (fun c87 => ?_) (fun c87 => ?_)
      · exact jn3 F V _ _ _ (hI.mono (by omega)) hU hV hP hD hS (lv_sub hl [0, 1] rfl)
      · refine lv_aload_n hx hb dX9_step_49 rfl (lv_at hl 0 rfl) ?_
        refine va_get (D := (dC, dI)) (ci := 10) (v := .int (V 22)) (C := RX9) (T := TX9) (N := 46) hx hb hts in_m_step_X9 hown hK hP 0 rfl rfl 22 (by decide) (hts (.fieldLink RX9 129 "ServiceTreeModel" "tick" "I") (by decide +kernel)) (fun _ h9 => h9) rfl dX9_step_50 ?_
        refine lv_topi (fun x88 ex88 => ?_)
        refine lv_aload_n hx hb dX9_step_53 rfl (lv_at hl 0 rfl) ?_
        refine va_get (D := (dC, dI)) (ci := 10) (v := .ref (a 8)) (C := RX9) (T := TX9) (N := 46) hx hb hts in_m_step_X9 hown hK hP 0 rfl rfl 8 (by decide) (hts (.fieldLink RX9 34 "ServiceTreeModel" "since" "[I") (by decide +kernel)) (fun _ h9 => h9) rfl dX9_step_54 ?_
        refine lv_iload_n hx hb dX9_step_57 rfl (lv_at hl 1 rfl) ?_
        refine va_iald (n := 40) (f := F 8) hx hb hK hP 9 8 rfl rfl (vp_in_nI (n := sv) (by omega) (by decide)) dX9_step_58 ?_
        refine p1_topr (v := .int x82) (congrArg Value.int ex82.symm) ?_
        refine lv_isub hx hb dX9_step_59 ?_
        refine lv_topi (fun x90 ex90 => ?_)
        refine lv_aload_n hx hb dX9_step_60 rfl (lv_at hl 0 rfl) ?_
        refine va_get (D := (dC, dI)) (ci := 10) (v := .ref (a 2)) (C := RX9) (T := TX9) (N := 46) hx hb hts in_m_step_X9 hown hK hP 0 rfl rfl 2 (by decide) (hts (.fieldLink RX9 16 "ServiceTreeModel" "stop" "[I") (by decide +kernel)) (fun _ h9 => h9) rfl dX9_step_61 ?_
        refine lv_iload_n hx hb dX9_step_64 rfl (lv_at hl 1 rfl) ?_
        refine va_iald (n := 40) (f := F 2) hx hb hK hP 3 2 rfl rfl (vp_in_nI (n := sv) (by omega) (by decide)) dX9_step_65 ?_
        refine lv_topi (fun x91 ex91 => ?_)
        refine lv_icmp_lt (tgt := 75) hx hb dX9_step_66 (by decide) (fun c92 => ?_) (fun c92 => ?_)
        · exact jn3 F V _ _ _ (hI.mono (by omega)) hU hV hP hD hS (lv_sub hl [0, 1] rfl)
        · refine lv_aload_n hx hb dX9_step_69 rfl (lv_at hl 0 rfl) ?_
          refine lv_iload_n hx hb dX9_step_70 rfl (lv_at hl 1 rfl) ?_
          refine lv_iconst (v := 0) hx hb dX9_step_71 (by decide) ?_
          have hFc := mw_free hD hS hA
          refine va_callv (va_runV (As := [.int (nI sv), .int 0]) (rest := []) ⟨hx, hb, hml, hown, hts⟩ (c_m_to l dC dI h a k F V n (b) sv 0 s.heap.size hI.1 (by omega) (by omega)) (cwV 2 hts wc_m_step_m_to_211 rfl rfl rfl (by decide +kernel) ⟨Nat.le_of_ble_eq_true rfl, Nat.le_of_ble_eq_true rfl⟩) ⟨fun a9 U g mk q => by obtain ⟨q0, q1, qP, qK, qD⟩ := q; exact ⟨q0, q1, qP, va_K.moved (u := U) (U := U.calling g mk a9) (Vm.Alike.refl U.vm) qK, qD⟩, va_recv hK hP (ci := 10) (q0 := 0) rfl rfl, fun U hU hW => ⟨rfl, by rw [hU], by rw [hU]; exact hP, va_K.moved hW.alike hK, hD.weaken (fun _ _ _ _ => trivial)⟩⟩ rfl rfl hl.1 rfl (lv_room (Nat.le_of_ble_eq_true rfl)) dX9_step_72 ⟨Nat.le_of_ble_eq_true rfl, Nat.le_of_ble_eq_true rfl⟩) hS (fun q _ h => hFc q h) hFc (fun u t H1 locs ht hvm hw hB hz1 hk1 hS => ?_)
          obtain ⟨F94, V95⟩ := u
          replace hP := hB.1
          rw [ht] at hP
          replace hD : va_D A (mW h a k F94 V95) := hB.2.weaken (fun _ q _ h9 => hFc q.1 h9)
          clear hB
          generalize H1 = H at hP hS ⊢
          replace hP : va_P (dC, dI) vwCl (mW h a k F94 V95) H := hP
          obtain ⟨hwI, hwU, hwV, hw⟩ := hw
          replace hU : ∀ j : Nat, j ∉ ([7, 8, 9, 10, 11, 12, 13, 14, 42, 43, 44] : List Nat) → F94 j = F j := mw_tr (by decide) hwU hU
          replace hV : ∀ j : Nat, j ∉ ([45] : List Nat) → V95 j = V j := mw_tr (by decide) hwV hV
          replace hI : StM n (b + 2) F V F94 V95 := hI.trans hwI
          exact jn3 F94 V95 _ _ _ (hI.mono (by omega)) hU hV hP hD hS (lv_sub hl [0, 1] rfl)
    · refine lv_aload_n hx hb dX9_step_30 rfl (lv_at hl 0 rfl) ?_
      refine lv_iload_n hx hb dX9_step_31 rfl (lv_at hl 1 rfl) ?_
      refine lv_iconst (v := 2) hx hb dX9_step_32 (by decide) ?_
      have hFc := mw_free hD hS hA
      refine va_callv (va_runV (As := [.int (nI sv), .int 2]) (rest := []) ⟨hx, hb, hml, hown, hts⟩ (c_m_to l dC dI h a k F V n (b) sv 2 s.heap.size hI.1 (by omega) (by omega)) (cwV 2 hts wc_m_step_m_to_211 rfl rfl rfl (by decide +kernel) ⟨Nat.le_of_ble_eq_true rfl, Nat.le_of_ble_eq_true rfl⟩) ⟨fun a9 U g mk q => by obtain ⟨q0, q1, qP, qK, qD⟩ := q; exact ⟨q0, q1, qP, va_K.moved (u := U) (U := U.calling g mk a9) (Vm.Alike.refl U.vm) qK, qD⟩, va_recv hK hP (ci := 10) (q0 := 0) rfl rfl, fun U hU hW => ⟨rfl, by rw [hU], by rw [hU]; exact hP, va_K.moved hW.alike hK, hD.weaken (fun _ _ _ _ => trivial)⟩⟩ rfl rfl hl.1 rfl (lv_room (Nat.le_of_ble_eq_true rfl)) dX9_step_33 ⟨Nat.le_of_ble_eq_true rfl, Nat.le_of_ble_eq_true rfl⟩) hS (fun q _ h => hFc q h) hFc (fun u t H1 locs ht hvm hw hB hz1 hk1 hS => ?_)
      obtain ⟨F97, V98⟩ := u
      replace hP := hB.1
      rw [ht] at hP
      replace hD : va_D A (mW h a k F97 V98) := hB.2.weaken (fun _ q _ h9 => hFc q.1 h9)
      clear hB
      generalize H1 = H at hP hS ⊢
      replace hP : va_P (dC, dI) vwCl (mW h a k F97 V98) H := hP
      obtain ⟨hwI, hwU, hwV, hw⟩ := hw
      replace hU : ∀ j : Nat, j ∉ ([7, 8, 9, 10, 11, 12, 13, 14, 42, 43, 44] : List Nat) → F97 j = F j := mw_tr (by decide) hwU hU
      replace hV : ∀ j : Nat, j ∉ ([45] : List Nat) → V98 j = V j := mw_tr (by decide) hwV hV
      replace hI : StM n (b + 2) F V F97 V98 := hI.trans hwI
      refine lv_goto (tgt := 75) hx hb dX9_step_36 (by decide) ?_
      exact jn3 F97 V98 _ _ _ (hI.mono (by omega)) hU hV hP hD hS (lv_sub hl [0, 1] rfl)
