theorem dX9_addWanted_0 : decode cX9_addWanted 0 = .ok (.iconst 1, 1) := by decide +kernel
theorem dX9_addWanted_1 : decode cX9_addWanted 1 = .ok (.istore_n 1, 1) := by decide +kernel
theorem dX9_addWanted_2 : decode cX9_addWanted 2 = .ok (.iload_n 1, 1) := by decide +kernel
theorem dX9_addWanted_3 : decode cX9_addWanted 3 = .ok (.ifCond .eq 202, 3) := by decide +kernel
theorem dX9_addWanted_6 : decode cX9_addWanted 6 = .ok (.iconst 0, 1) := by decide +kernel
theorem dX9_addWanted_7 : decode cX9_addWanted 7 = .ok (.istore_n 1, 1) := by decide +kernel
theorem dX9_addWanted_8 : decode cX9_addWanted 8 = .ok (.iconst (-1), 1) := by decide +kernel
theorem dX9_addWanted_9 : decode cX9_addWanted 9 = .ok (.istore_n 2, 1) := by decide +kernel
theorem dX9_addWanted_10 : decode cX9_addWanted 10 = .ok (.aload_n 0, 1) := by decide +kernel
theorem dX9_addWanted_11 : decode cX9_addWanted 11 = .ok (.getfield 126, 3) := by decide +kernel
theorem dX9_addWanted_14 : decode cX9_addWanted 14 = .ok (.iconst 1, 1) := by decide +kernel
theorem dX9_addWanted_15 : decode cX9_addWanted 15 = .ok (.isub, 1) := by decide +kernel
theorem dX9_addWanted_16 : decode cX9_addWanted 16 = .ok (.istore_n 3, 1) := by decide +kernel
theorem dX9_addWanted_17 : decode cX9_addWanted 17 = .ok (.iload_n 3, 1) := by decide +kernel
theorem dX9_addWanted_18 : decode cX9_addWanted 18 = .ok (.ifCond .lt 72, 3) := by decide +kernel
theorem dX9_addWanted_21 : decode cX9_addWanted 21 = .ok (.iconst 0, 1) := by decide +kernel
theorem dX9_addWanted_22 : decode cX9_addWanted 22 = .ok (.istore 4, 2) := by decide +kernel
theorem dX9_addWanted_24 : decode cX9_addWanted 24 = .ok (.iload 4, 2) := by decide +kernel
theorem dX9_addWanted_26 : decode cX9_addWanted 26 = .ok (.aload_n 0, 1) := by decide +kernel
theorem dX9_addWanted_27 : decode cX9_addWanted 27 = .ok (.getfield 126, 3) := by decide +kernel
theorem dX9_addWanted_30 : decode cX9_addWanted 30 = .ok (.if_icmp .ge 54, 3) := by decide +kernel
theorem dX9_addWanted_33 : decode cX9_addWanted 33 = .ok (.aload_n 0, 1) := by decide +kernel
theorem dX9_addWanted_34 : decode cX9_addWanted 34 = .ok (.getfield 77, 3) := by decide +kernel
theorem dX9_addWanted_37 : decode cX9_addWanted 37 = .ok (.iload 4, 2) := by decide +kernel
theorem dX9_addWanted_39 : decode cX9_addWanted 39 = .ok (.baload, 1) := by decide +kernel
theorem dX9_addWanted_40 : decode cX9_addWanted 40 = .ok (.ifCond .eq 36, 3) := by decide +kernel
theorem dX9_addWanted_43 : decode cX9_addWanted 43 = .ok (.aload_n 0, 1) := by decide +kernel
theorem dX9_addWanted_44 : decode cX9_addWanted 44 = .ok (.iconst 1, 1) := by decide +kernel
theorem dX9_addWanted_45 : decode cX9_addWanted 45 = .ok (.iload 4, 2) := by decide +kernel
theorem dX9_addWanted_47 : decode cX9_addWanted 47 = .ok (.iload_n 3, 1) := by decide +kernel
theorem dX9_addWanted_48 : decode cX9_addWanted 48 = .ok (.invokevirtual 150, 3) := by decide +kernel
theorem dX9_addWanted_51 : decode cX9_addWanted 51 = .ok (.ifCond .eq 25, 3) := by decide +kernel
theorem dX9_addWanted_54 : decode cX9_addWanted 54 = .ok (.aload_n 0, 1) := by decide +kernel
theorem dX9_addWanted_55 : decode cX9_addWanted 55 = .ok (.getfield 77, 3) := by decide +kernel
theorem dX9_addWanted_58 : decode cX9_addWanted 58 = .ok (.iload_n 3, 1) := by decide +kernel
theorem dX9_addWanted_59 : decode cX9_addWanted 59 = .ok (.baload, 1) := by decide +kernel
theorem dX9_addWanted_60 : decode cX9_addWanted 60 = .ok (.ifCond .ne 16, 3) := by decide +kernel
theorem dX9_addWanted_63 : decode cX9_addWanted 63 = .ok (.aload_n 0, 1) := by decide +kernel
theorem dX9_addWanted_64 : decode cX9_addWanted 64 = .ok (.getfield 83, 3) := by decide +kernel
theorem dX9_addWanted_67 : decode cX9_addWanted 67 = .ok (.iload_n 3, 1) := by decide +kernel
theorem dX9_addWanted_68 : decode cX9_addWanted 68 = .ok (.baload, 1) := by decide +kernel
theorem dX9_addWanted_69 : decode cX9_addWanted 69 = .ok (.ifCond .ne 7, 3) := by decide +kernel
theorem dX9_addWanted_72 : decode cX9_addWanted 72 = .ok (.iload_n 3, 1) := by decide +kernel
theorem dX9_addWanted_73 : decode cX9_addWanted 73 = .ok (.goto 4, 3) := by decide +kernel
theorem dX9_addWanted_76 : decode cX9_addWanted 76 = .ok (.iload_n 2, 1) := by decide +kernel
theorem dX9_addWanted_77 : decode cX9_addWanted 77 = .ok (.istore_n 2, 1) := by decide +kernel
theorem dX9_addWanted_78 : decode cX9_addWanted 78 = .ok (.iinc 4 1, 3) := by decide +kernel
theorem dX9_addWanted_81 : decode cX9_addWanted 81 = .ok (.goto (-57), 3) := by decide +kernel
theorem dX9_addWanted_84 : decode cX9_addWanted 84 = .ok (.iinc 3 (-1), 3) := by decide +kernel
theorem dX9_addWanted_87 : decode cX9_addWanted 87 = .ok (.goto (-70), 3) := by decide +kernel
theorem dX9_addWanted_90 : decode cX9_addWanted 90 = .ok (.iload_n 2, 1) := by decide +kernel
theorem dX9_addWanted_91 : decode cX9_addWanted 91 = .ok (.ifCond .lt 111, 3) := by decide +kernel
theorem dX9_addWanted_94 : decode cX9_addWanted 94 = .ok (.iconst 1, 1) := by decide +kernel
theorem dX9_addWanted_95 : decode cX9_addWanted 95 = .ok (.istore_n 1, 1) := by decide +kernel
theorem dX9_addWanted_96 : decode cX9_addWanted 96 = .ok (.aload_n 0, 1) := by decide +kernel
theorem dX9_addWanted_97 : decode cX9_addWanted 97 = .ok (.getfield 83, 3) := by decide +kernel
theorem dX9_addWanted_100 : decode cX9_addWanted 100 = .ok (.iload_n 2, 1) := by decide +kernel
theorem dX9_addWanted_101 : decode cX9_addWanted 101 = .ok (.iconst 1, 1) := by decide +kernel
theorem dX9_addWanted_102 : decode cX9_addWanted 102 = .ok (.bastore, 1) := by decide +kernel
theorem dX9_addWanted_103 : decode cX9_addWanted 103 = .ok (.iconst 0, 1) := by decide +kernel
theorem dX9_addWanted_104 : decode cX9_addWanted 104 = .ok (.istore_n 3, 1) := by decide +kernel
theorem dX9_addWanted_105 : decode cX9_addWanted 105 = .ok (.iload_n 3, 1) := by decide +kernel
theorem dX9_addWanted_106 : decode cX9_addWanted 106 = .ok (.aload_n 0, 1) := by decide +kernel
theorem dX9_addWanted_107 : decode cX9_addWanted 107 = .ok (.getfield 126, 3) := by decide +kernel
theorem dX9_addWanted_110 : decode cX9_addWanted 110 = .ok (.if_icmp .ge 34, 3) := by decide +kernel
theorem dX9_addWanted_113 : decode cX9_addWanted 113 = .ok (.aload_n 0, 1) := by decide +kernel
theorem dX9_addWanted_114 : decode cX9_addWanted 114 = .ok (.getfield 80, 3) := by decide +kernel
theorem dX9_addWanted_117 : decode cX9_addWanted 117 = .ok (.iload_n 3, 1) := by decide +kernel
theorem dX9_addWanted_118 : decode cX9_addWanted 118 = .ok (.aload_n 0, 1) := by decide +kernel
theorem dX9_addWanted_119 : decode cX9_addWanted 119 = .ok (.getfield 77, 3) := by decide +kernel
theorem dX9_addWanted_122 : decode cX9_addWanted 122 = .ok (.iload_n 3, 1) := by decide +kernel
theorem dX9_addWanted_123 : decode cX9_addWanted 123 = .ok (.baload, 1) := by decide +kernel
theorem dX9_addWanted_124 : decode cX9_addWanted 124 = .ok (.ifCond .ne 8, 3) := by decide +kernel
theorem dX9_addWanted_127 : decode cX9_addWanted 127 = .ok (.iload_n 3, 1) := by decide +kernel
theorem dX9_addWanted_128 : decode cX9_addWanted 128 = .ok (.iload_n 2, 1) := by decide +kernel
theorem dX9_addWanted_129 : decode cX9_addWanted 129 = .ok (.if_icmp .ne 7, 3) := by decide +kernel
theorem dX9_addWanted_132 : decode cX9_addWanted 132 = .ok (.iconst 1, 1) := by decide +kernel
theorem dX9_addWanted_133 : decode cX9_addWanted 133 = .ok (.goto 4, 3) := by decide +kernel
theorem dX9_addWanted_136 : decode cX9_addWanted 136 = .ok (.iconst 0, 1) := by decide +kernel
theorem dX9_addWanted_137 : decode cX9_addWanted 137 = .ok (.bastore, 1) := by decide +kernel
theorem dX9_addWanted_138 : decode cX9_addWanted 138 = .ok (.iinc 3 1, 3) := by decide +kernel
theorem dX9_addWanted_141 : decode cX9_addWanted 141 = .ok (.goto (-36), 3) := by decide +kernel
theorem dX9_addWanted_144 : decode cX9_addWanted 144 = .ok (.aload_n 0, 1) := by decide +kernel
theorem dX9_addWanted_145 : decode cX9_addWanted 145 = .ok (.aload_n 0, 1) := by decide +kernel
theorem dX9_addWanted_146 : decode cX9_addWanted 146 = .ok (.getfield 80, 3) := by decide +kernel
theorem dX9_addWanted_149 : decode cX9_addWanted 149 = .ok (.invokevirtual 174, 3) := by decide +kernel
theorem dX9_addWanted_152 : decode cX9_addWanted 152 = .ok (.aload_n 0, 1) := by decide +kernel
theorem dX9_addWanted_153 : decode cX9_addWanted 153 = .ok (.aload_n 0, 1) := by decide +kernel
theorem dX9_addWanted_154 : decode cX9_addWanted 154 = .ok (.getfield 80, 3) := by decide +kernel
theorem dX9_addWanted_157 : decode cX9_addWanted 157 = .ok (.invokevirtual 178, 3) := by decide +kernel
theorem dX9_addWanted_160 : decode cX9_addWanted 160 = .ok (.ifCond .ne 42, 3) := by decide +kernel
theorem dX9_addWanted_163 : decode cX9_addWanted 163 = .ok (.aload_n 0, 1) := by decide +kernel
theorem dX9_addWanted_164 : decode cX9_addWanted 164 = .ok (.aload_n 0, 1) := by decide +kernel
theorem dX9_addWanted_165 : decode cX9_addWanted 165 = .ok (.getfield 80, 3) := by decide +kernel
theorem dX9_addWanted_168 : decode cX9_addWanted 168 = .ok (.invokevirtual 182, 3) := by decide +kernel
theorem dX9_addWanted_171 : decode cX9_addWanted 171 = .ok (.ifCond .ne 31, 3) := by decide +kernel
theorem dX9_addWanted_174 : decode cX9_addWanted 174 = .ok (.iconst 0, 1) := by decide +kernel
theorem dX9_addWanted_175 : decode cX9_addWanted 175 = .ok (.istore_n 3, 1) := by decide +kernel
theorem dX9_addWanted_176 : decode cX9_addWanted 176 = .ok (.iload_n 3, 1) := by decide +kernel
theorem dX9_addWanted_177 : decode cX9_addWanted 177 = .ok (.aload_n 0, 1) := by decide +kernel
theorem dX9_addWanted_178 : decode cX9_addWanted 178 = .ok (.getfield 126, 3) := by decide +kernel
theorem dX9_addWanted_181 : decode cX9_addWanted 181 = .ok (.if_icmp .ge 21, 3) := by decide +kernel
theorem dX9_addWanted_184 : decode cX9_addWanted 184 = .ok (.aload_n 0, 1) := by decide +kernel
theorem dX9_addWanted_185 : decode cX9_addWanted 185 = .ok (.getfield 77, 3) := by decide +kernel
theorem dX9_addWanted_188 : decode cX9_addWanted 188 = .ok (.iload_n 3, 1) := by decide +kernel
theorem dX9_addWanted_189 : decode cX9_addWanted 189 = .ok (.aload_n 0, 1) := by decide +kernel
theorem dX9_addWanted_190 : decode cX9_addWanted 190 = .ok (.getfield 80, 3) := by decide +kernel
theorem dX9_addWanted_193 : decode cX9_addWanted 193 = .ok (.iload_n 3, 1) := by decide +kernel
theorem dX9_addWanted_194 : decode cX9_addWanted 194 = .ok (.baload, 1) := by decide +kernel
theorem dX9_addWanted_195 : decode cX9_addWanted 195 = .ok (.bastore, 1) := by decide +kernel
theorem dX9_addWanted_196 : decode cX9_addWanted 196 = .ok (.iinc 3 1, 3) := by decide +kernel
theorem dX9_addWanted_199 : decode cX9_addWanted 199 = .ok (.goto (-23), 3) := by decide +kernel
theorem dX9_addWanted_202 : decode cX9_addWanted 202 = .ok (.goto (-200), 3) := by decide +kernel
theorem dX9_addWanted_205 : decode cX9_addWanted 205 = .ok (.return_, 1) := by decide +kernel
theorem dX9_look_0 : decode cX9_look 0 = .ok (.aload_n 0, 1) := by decide +kernel
theorem dX9_look_1 : decode cX9_look 1 = .ok (.invokevirtual 143, 3) := by decide +kernel
theorem dX9_look_4 : decode cX9_look 4 = .ok (.ifCond .gt 17, 3) := by decide +kernel
theorem dX9_look_7 : decode cX9_look 7 = .ok (.aload_n 0, 1) := by decide +kernel
theorem dX9_look_8 : decode cX9_look 8 = .ok (.iconst 1, 1) := by decide +kernel
theorem dX9_look_9 : decode cX9_look 9 = .ok (.invokevirtual 186, 3) := by decide +kernel
theorem dX9_look_12 : decode cX9_look 12 = .ok (.aload_n 0, 1) := by decide +kernel
theorem dX9_look_13 : decode cX9_look 13 = .ok (.iconst 3, 1) := by decide +kernel
theorem dX9_look_14 : decode cX9_look 14 = .ok (.invokevirtual 186, 3) := by decide +kernel
theorem dX9_look_17 : decode cX9_look 17 = .ok (.iadd, 1) := by decide +kernel
theorem dX9_look_18 : decode cX9_look 18 = .ok (.ifCond .le 6, 3) := by decide +kernel
theorem dX9_look_21 : decode cX9_look 21 = .ok (.bipush (-3), 2) := by decide +kernel
theorem dX9_look_23 : decode cX9_look 23 = .ok (.ireturn, 1) := by decide +kernel
theorem dX9_look_24 : decode cX9_look 24 = .ok (.iconst 0, 1) := by decide +kernel
theorem dX9_look_25 : decode cX9_look 25 = .ok (.istore_n 3, 1) := by decide +kernel
theorem dX9_look_26 : decode cX9_look 26 = .ok (.iload_n 3, 1) := by decide +kernel
theorem dX9_look_27 : decode cX9_look 27 = .ok (.aload_n 0, 1) := by decide +kernel
theorem dX9_look_28 : decode cX9_look 28 = .ok (.getfield 126, 3) := by decide +kernel
theorem dX9_look_31 : decode cX9_look 31 = .ok (.if_icmp .ge 23, 3) := by decide +kernel
theorem dX9_look_34 : decode cX9_look 34 = .ok (.aload_n 0, 1) := by decide +kernel
theorem dX9_look_35 : decode cX9_look 35 = .ok (.getfield 86, 3) := by decide +kernel
theorem dX9_look_38 : decode cX9_look 38 = .ok (.iload_n 3, 1) := by decide +kernel
theorem dX9_look_39 : decode cX9_look 39 = .ok (.iconst 0, 1) := by decide +kernel
theorem dX9_look_40 : decode cX9_look 40 = .ok (.iastore, 1) := by decide +kernel
theorem dX9_look_41 : decode cX9_look 41 = .ok (.aload_n 0, 1) := by decide +kernel
theorem dX9_look_42 : decode cX9_look 42 = .ok (.getfield 77, 3) := by decide +kernel
theorem dX9_look_45 : decode cX9_look 45 = .ok (.iload_n 3, 1) := by decide +kernel
theorem dX9_look_46 : decode cX9_look 46 = .ok (.iconst 0, 1) := by decide +kernel
theorem dX9_look_47 : decode cX9_look 47 = .ok (.bastore, 1) := by decide +kernel
theorem dX9_look_48 : decode cX9_look 48 = .ok (.iinc 3 1, 3) := by decide +kernel
theorem dX9_look_51 : decode cX9_look 51 = .ok (.goto (-25), 3) := by decide +kernel
theorem dX9_look_54 : decode cX9_look 54 = .ok (.iload_n 1, 1) := by decide +kernel
theorem dX9_look_55 : decode cX9_look 55 = .ok (.iconst 1, 1) := by decide +kernel
theorem dX9_look_56 : decode cX9_look 56 = .ok (.if_icmp .ne 30, 3) := by decide +kernel
theorem dX9_look_59 : decode cX9_look 59 = .ok (.aload_n 0, 1) := by decide +kernel
theorem dX9_look_60 : decode cX9_look 60 = .ok (.getfield 86, 3) := by decide +kernel
theorem dX9_look_63 : decode cX9_look 63 = .ok (.iload_n 2, 1) := by decide +kernel
theorem dX9_look_64 : decode cX9_look 64 = .ok (.aload_n 0, 1) := by decide +kernel
theorem dX9_look_65 : decode cX9_look 65 = .ok (.iload_n 2, 1) := by decide +kernel
theorem dX9_look_66 : decode cX9_look 66 = .ok (.invokevirtual 171, 3) := by decide +kernel
theorem dX9_look_69 : decode cX9_look 69 = .ok (.ifCond .eq 7, 3) := by decide +kernel
theorem dX9_look_72 : decode cX9_look 72 = .ok (.iconst 2, 1) := by decide +kernel
theorem dX9_look_73 : decode cX9_look 73 = .ok (.goto 4, 3) := by decide +kernel
theorem dX9_look_76 : decode cX9_look 76 = .ok (.iconst 0, 1) := by decide +kernel
theorem dX9_look_77 : decode cX9_look 77 = .ok (.iastore, 1) := by decide +kernel
theorem dX9_look_78 : decode cX9_look 78 = .ok (.aload_n 0, 1) := by decide +kernel
theorem dX9_look_79 : decode cX9_look 79 = .ok (.iload_n 2, 1) := by decide +kernel
theorem dX9_look_80 : decode cX9_look 80 = .ok (.invokevirtual 190, 3) := by decide +kernel
theorem dX9_look_83 : decode cX9_look 83 = .ok (.goto 269, 3) := by decide +kernel
theorem dX9_look_86 : decode cX9_look 86 = .ok (.aload_n 0, 1) := by decide +kernel
theorem dX9_look_87 : decode cX9_look 87 = .ok (.iload_n 2, 1) := by decide +kernel
theorem dX9_look_88 : decode cX9_look 88 = .ok (.invokevirtual 194, 3) := by decide +kernel
theorem dX9_look_91 : decode cX9_look 91 = .ok (.aload_n 0, 1) := by decide +kernel
theorem dX9_look_92 : decode cX9_look 92 = .ok (.aload_n 0, 1) := by decide +kernel
theorem dX9_look_93 : decode cX9_look 93 = .ok (.getfield 77, 3) := by decide +kernel
theorem dX9_look_96 : decode cX9_look 96 = .ok (.invokevirtual 178, 3) := by decide +kernel
theorem dX9_look_99 : decode cX9_look 99 = .ok (.ifCond .eq 6, 3) := by decide +kernel
theorem dX9_look_102 : decode cX9_look 102 = .ok (.bipush (-4), 2) := by decide +kernel
theorem dX9_look_104 : decode cX9_look 104 = .ok (.ireturn, 1) := by decide +kernel
theorem dX9_look_105 : decode cX9_look 105 = .ok (.aload_n 0, 1) := by decide +kernel
theorem dX9_look_106 : decode cX9_look 106 = .ok (.aload_n 0, 1) := by decide +kernel
theorem dX9_look_107 : decode cX9_look 107 = .ok (.getfield 77, 3) := by decide +kernel
theorem dX9_look_110 : decode cX9_look 110 = .ok (.invokevirtual 182, 3) := by decide +kernel
theorem dX9_look_113 : decode cX9_look 113 = .ok (.istore_n 3, 1) := by decide +kernel
theorem dX9_look_114 : decode cX9_look 114 = .ok (.iload_n 3, 1) := by decide +kernel
theorem dX9_look_115 : decode cX9_look 115 = .ok (.ifCond .le 11, 3) := by decide +kernel
theorem dX9_look_118 : decode cX9_look 118 = .ok (.aload_n 0, 1) := by decide +kernel
theorem dX9_look_119 : decode cX9_look 119 = .ok (.iload_n 3, 1) := by decide +kernel
theorem dX9_look_120 : decode cX9_look 120 = .ok (.putfield 197, 3) := by decide +kernel
theorem dX9_look_123 : decode cX9_look 123 = .ok (.bipush (-5), 2) := by decide +kernel
theorem dX9_look_125 : decode cX9_look 125 = .ok (.ireturn, 1) := by decide +kernel
theorem dX9_look_126 : decode cX9_look 126 = .ok (.aload_n 0, 1) := by decide +kernel
theorem dX9_look_127 : decode cX9_look 127 = .ok (.invokevirtual 200, 3) := by decide +kernel
theorem dX9_look_130 : decode cX9_look 130 = .ok (.iconst 0, 1) := by decide +kernel
theorem dX9_look_131 : decode cX9_look 131 = .ok (.istore 4, 2) := by decide +kernel
theorem dX9_look_133 : decode cX9_look 133 = .ok (.iload 4, 2) := by decide +kernel
theorem dX9_look_135 : decode cX9_look 135 = .ok (.aload_n 0, 1) := by decide +kernel
theorem dX9_look_136 : decode cX9_look 136 = .ok (.getfield 126, 3) := by decide +kernel
theorem dX9_look_139 : decode cX9_look 139 = .ok (.if_icmp .ge 109, 3) := by decide +kernel
theorem dX9_look_142 : decode cX9_look 142 = .ok (.iload_n 1, 1) := by decide +kernel
theorem dX9_look_143 : decode cX9_look 143 = .ok (.iconst 2, 1) := by decide +kernel
theorem dX9_look_144 : decode cX9_look 144 = .ok (.if_icmp .ne 17, 3) := by decide +kernel
theorem dX9_look_147 : decode cX9_look 147 = .ok (.aload_n 0, 1) := by decide +kernel
theorem dX9_look_148 : decode cX9_look 148 = .ok (.getfield 77, 3) := by decide +kernel
theorem dX9_look_151 : decode cX9_look 151 = .ok (.iload 4, 2) := by decide +kernel
theorem dX9_look_153 : decode cX9_look 153 = .ok (.baload, 1) := by decide +kernel
theorem dX9_look_154 : decode cX9_look 154 = .ok (.ifCond .ne 7, 3) := by decide +kernel
theorem dX9_look_157 : decode cX9_look 157 = .ok (.iconst 1, 1) := by decide +kernel
theorem dX9_look_158 : decode cX9_look 158 = .ok (.goto 4, 3) := by decide +kernel
theorem dX9_look_161 : decode cX9_look 161 = .ok (.iconst 0, 1) := by decide +kernel
theorem dX9_look_162 : decode cX9_look 162 = .ok (.istore 5, 2) := by decide +kernel
theorem dX9_look_164 : decode cX9_look 164 = .ok (.iconst 0, 1) := by decide +kernel
theorem dX9_look_165 : decode cX9_look 165 = .ok (.istore 6, 2) := by decide +kernel
theorem dX9_look_167 : decode cX9_look 167 = .ok (.iload 6, 2) := by decide +kernel
theorem dX9_look_169 : decode cX9_look 169 = .ok (.aload_n 0, 1) := by decide +kernel
theorem dX9_look_170 : decode cX9_look 170 = .ok (.getfield 126, 3) := by decide +kernel
theorem dX9_look_173 : decode cX9_look 173 = .ok (.if_icmp .ge 43, 3) := by decide +kernel
theorem dX9_look_176 : decode cX9_look 176 = .ok (.iload 5, 2) := by decide +kernel
theorem dX9_look_178 : decode cX9_look 178 = .ok (.ifCond .ne 25, 3) := by decide +kernel
theorem dX9_look_181 : decode cX9_look 181 = .ok (.aload_n 0, 1) := by decide +kernel
theorem dX9_look_182 : decode cX9_look 182 = .ok (.getfield 77, 3) := by decide +kernel
theorem dX9_look_185 : decode cX9_look 185 = .ok (.iload 6, 2) := by decide +kernel
theorem dX9_look_187 : decode cX9_look 187 = .ok (.baload, 1) := by decide +kernel
theorem dX9_look_188 : decode cX9_look 188 = .ok (.ifCond .eq 19, 3) := by decide +kernel
theorem dX9_look_191 : decode cX9_look 191 = .ok (.aload_n 0, 1) := by decide +kernel
theorem dX9_look_192 : decode cX9_look 192 = .ok (.iconst 3, 1) := by decide +kernel
theorem dX9_look_193 : decode cX9_look 193 = .ok (.iload 4, 2) := by decide +kernel
theorem dX9_look_195 : decode cX9_look 195 = .ok (.iload 6, 2) := by decide +kernel
theorem dX9_look_197 : decode cX9_look 197 = .ok (.invokevirtual 150, 3) := by decide +kernel
theorem dX9_look_200 : decode cX9_look 200 = .ok (.ifCond .eq 7, 3) := by decide +kernel
theorem dX9_look_203 : decode cX9_look 203 = .ok (.iconst 1, 1) := by decide +kernel
theorem dX9_look_204 : decode cX9_look 204 = .ok (.goto 4, 3) := by decide +kernel
theorem dX9_look_207 : decode cX9_look 207 = .ok (.iconst 0, 1) := by decide +kernel
theorem dX9_look_208 : decode cX9_look 208 = .ok (.istore 5, 2) := by decide +kernel
theorem dX9_look_210 : decode cX9_look 210 = .ok (.iinc 6 1, 3) := by decide +kernel
theorem dX9_look_213 : decode cX9_look 213 = .ok (.goto (-46), 3) := by decide +kernel
theorem dX9_look_216 : decode cX9_look 216 = .ok (.aload_n 0, 1) := by decide +kernel
theorem dX9_look_217 : decode cX9_look 217 = .ok (.getfield 86, 3) := by decide +kernel
theorem dX9_look_220 : decode cX9_look 220 = .ok (.iload 4, 2) := by decide +kernel
theorem dX9_look_222 : decode cX9_look 222 = .ok (.iload 5, 2) := by decide +kernel
theorem dX9_look_224 : decode cX9_look 224 = .ok (.ifCond .eq 16, 3) := by decide +kernel
theorem dX9_look_227 : decode cX9_look 227 = .ok (.aload_n 0, 1) := by decide +kernel
theorem dX9_look_228 : decode cX9_look 228 = .ok (.iload 4, 2) := by decide +kernel
theorem dX9_look_230 : decode cX9_look 230 = .ok (.invokevirtual 171, 3) := by decide +kernel
theorem dX9_look_233 : decode cX9_look 233 = .ok (.ifCond .eq 7, 3) := by decide +kernel
theorem dX9_look_236 : decode cX9_look 236 = .ok (.iconst 2, 1) := by decide +kernel
theorem dX9_look_237 : decode cX9_look 237 = .ok (.goto 4, 3) := by decide +kernel
theorem dX9_look_240 : decode cX9_look 240 = .ok (.iconst 0, 1) := by decide +kernel
theorem dX9_look_241 : decode cX9_look 241 = .ok (.iastore, 1) := by decide +kernel
theorem dX9_look_242 : decode cX9_look 242 = .ok (.iinc 4 1, 3) := by decide +kernel
theorem dX9_look_245 : decode cX9_look 245 = .ok (.goto (-112), 3) := by decide +kernel
theorem dX9_look_248 : decode cX9_look 248 = .ok (.aload_n 0, 1) := by decide +kernel
theorem dX9_look_249 : decode cX9_look 249 = .ok (.iconst (-1), 1) := by decide +kernel
theorem dX9_look_250 : decode cX9_look 250 = .ok (.invokevirtual 190, 3) := by decide +kernel
theorem dX9_look_253 : decode cX9_look 253 = .ok (.iconst 0, 1) := by decide +kernel
theorem dX9_look_254 : decode cX9_look 254 = .ok (.istore 4, 2) := by decide +kernel
theorem dX9_look_256 : decode cX9_look 256 = .ok (.iload 4, 2) := by decide +kernel
theorem dX9_look_258 : decode cX9_look 258 = .ok (.aload_n 0, 1) := by decide +kernel
theorem dX9_look_259 : decode cX9_look 259 = .ok (.getfield 126, 3) := by decide +kernel
theorem dX9_look_262 : decode cX9_look 262 = .ok (.if_icmp .ge 33, 3) := by decide +kernel
theorem dX9_look_265 : decode cX9_look 265 = .ok (.aload_n 0, 1) := by decide +kernel
theorem dX9_look_266 : decode cX9_look 266 = .ok (.getfield 77, 3) := by decide +kernel
theorem dX9_look_269 : decode cX9_look 269 = .ok (.iload 4, 2) := by decide +kernel
theorem dX9_look_271 : decode cX9_look 271 = .ok (.baload, 1) := by decide +kernel
theorem dX9_look_272 : decode cX9_look 272 = .ok (.ifCond .eq 17, 3) := by decide +kernel
theorem dX9_look_275 : decode cX9_look 275 = .ok (.aload_n 0, 1) := by decide +kernel
theorem dX9_look_276 : decode cX9_look 276 = .ok (.getfield 86, 3) := by decide +kernel
theorem dX9_look_279 : decode cX9_look 279 = .ok (.iload 4, 2) := by decide +kernel
theorem dX9_look_281 : decode cX9_look 281 = .ok (.iaload, 1) := by decide +kernel
theorem dX9_look_282 : decode cX9_look 282 = .ok (.iconst 2, 1) := by decide +kernel
theorem dX9_look_283 : decode cX9_look 283 = .ok (.if_icmp .ne 6, 3) := by decide +kernel
theorem dX9_look_286 : decode cX9_look 286 = .ok (.bipush (-4), 2) := by decide +kernel
theorem dX9_look_288 : decode cX9_look 288 = .ok (.ireturn, 1) := by decide +kernel
theorem dX9_look_289 : decode cX9_look 289 = .ok (.iinc 4 1, 3) := by decide +kernel
theorem dX9_look_292 : decode cX9_look 292 = .ok (.goto (-36), 3) := by decide +kernel
theorem dX9_look_295 : decode cX9_look 295 = .ok (.iconst 0, 1) := by decide +kernel
theorem dX9_look_296 : decode cX9_look 296 = .ok (.istore 4, 2) := by decide +kernel
theorem dX9_look_298 : decode cX9_look 298 = .ok (.iload 4, 2) := by decide +kernel
theorem dX9_look_300 : decode cX9_look 300 = .ok (.aload_n 0, 1) := by decide +kernel
theorem dX9_look_301 : decode cX9_look 301 = .ok (.getfield 126, 3) := by decide +kernel
theorem dX9_look_304 : decode cX9_look 304 = .ok (.if_icmp .ge 48, 3) := by decide +kernel
theorem dX9_look_307 : decode cX9_look 307 = .ok (.aload_n 0, 1) := by decide +kernel
theorem dX9_look_308 : decode cX9_look 308 = .ok (.getfield 86, 3) := by decide +kernel
theorem dX9_look_311 : decode cX9_look 311 = .ok (.iload 4, 2) := by decide +kernel
theorem dX9_look_313 : decode cX9_look 313 = .ok (.aload_n 0, 1) := by decide +kernel
theorem dX9_look_314 : decode cX9_look 314 = .ok (.getfield 77, 3) := by decide +kernel
theorem dX9_look_317 : decode cX9_look 317 = .ok (.iload 4, 2) := by decide +kernel
theorem dX9_look_319 : decode cX9_look 319 = .ok (.baload, 1) := by decide +kernel
theorem dX9_look_320 : decode cX9_look 320 = .ok (.ifCond .eq 18, 3) := by decide +kernel
theorem dX9_look_323 : decode cX9_look 323 = .ok (.aload_n 0, 1) := by decide +kernel
theorem dX9_look_324 : decode cX9_look 324 = .ok (.getfield 31, 3) := by decide +kernel
theorem dX9_look_327 : decode cX9_look 327 = .ok (.iload 4, 2) := by decide +kernel
theorem dX9_look_329 : decode cX9_look 329 = .ok (.iaload, 1) := by decide +kernel
theorem dX9_look_330 : decode cX9_look 330 = .ok (.iconst 2, 1) := by decide +kernel
theorem dX9_look_331 : decode cX9_look 331 = .ok (.if_icmp .eq 7, 3) := by decide +kernel
theorem dX9_look_334 : decode cX9_look 334 = .ok (.iconst 1, 1) := by decide +kernel
theorem dX9_look_335 : decode cX9_look 335 = .ok (.goto 10, 3) := by decide +kernel
theorem dX9_look_338 : decode cX9_look 338 = .ok (.aload_n 0, 1) := by decide +kernel
theorem dX9_look_339 : decode cX9_look 339 = .ok (.getfield 86, 3) := by decide +kernel
theorem dX9_look_342 : decode cX9_look 342 = .ok (.iload 4, 2) := by decide +kernel
theorem dX9_look_344 : decode cX9_look 344 = .ok (.iaload, 1) := by decide +kernel
theorem dX9_look_345 : decode cX9_look 345 = .ok (.iastore, 1) := by decide +kernel
theorem dX9_look_346 : decode cX9_look 346 = .ok (.iinc 4 1, 3) := by decide +kernel
theorem dX9_look_349 : decode cX9_look 349 = .ok (.goto (-51), 3) := by decide +kernel
theorem dX9_look_352 : decode cX9_look 352 = .ok (.aload_n 0, 1) := by decide +kernel
theorem dX9_look_353 : decode cX9_look 353 = .ok (.aload_n 0, 1) := by decide +kernel
theorem dX9_look_354 : decode cX9_look 354 = .ok (.getfield 86, 3) := by decide +kernel
theorem dX9_look_357 : decode cX9_look 357 = .ok (.invokevirtual 203, 3) := by decide +kernel
theorem dX9_look_360 : decode cX9_look 360 = .ok (.istore_n 3, 1) := by decide +kernel
theorem dX9_look_361 : decode cX9_look 361 = .ok (.iload_n 3, 1) := by decide +kernel
theorem dX9_look_362 : decode cX9_look 362 = .ok (.ifCond .le 11, 3) := by decide +kernel
theorem dX9_look_365 : decode cX9_look 365 = .ok (.aload_n 0, 1) := by decide +kernel
theorem dX9_look_366 : decode cX9_look 366 = .ok (.iload_n 3, 1) := by decide +kernel
theorem dX9_look_367 : decode cX9_look 367 = .ok (.putfield 197, 3) := by decide +kernel
theorem dX9_look_370 : decode cX9_look 370 = .ok (.bipush (-5), 2) := by decide +kernel
theorem dX9_look_372 : decode cX9_look 372 = .ok (.ireturn, 1) := by decide +kernel
theorem dX9_look_373 : decode cX9_look 373 = .ok (.iconst 0, 1) := by decide +kernel
theorem dX9_look_374 : decode cX9_look 374 = .ok (.ireturn, 1) := by decide +kernel
theorem dX9_order_0 : decode cX9_order 0 = .ok (.iload_n 1, 1) := by decide +kernel
theorem dX9_order_1 : decode cX9_order 1 = .ok (.ifCond .lt 16, 3) := by decide +kernel
theorem dX9_order_4 : decode cX9_order 4 = .ok (.iload_n 1, 1) := by decide +kernel
theorem dX9_order_5 : decode cX9_order 5 = .ok (.iconst 2, 1) := by decide +kernel
theorem dX9_order_6 : decode cX9_order 6 = .ok (.if_icmp .gt 11, 3) := by decide +kernel
theorem dX9_order_9 : decode cX9_order 9 = .ok (.aload_n 0, 1) := by decide +kernel
theorem dX9_order_10 : decode cX9_order 10 = .ok (.iload_n 2, 1) := by decide +kernel
theorem dX9_order_11 : decode cX9_order 11 = .ok (.invokevirtual 135, 3) := by decide +kernel
theorem dX9_order_14 : decode cX9_order 14 = .ok (.ifCond .ne 5, 3) := by decide +kernel
theorem dX9_order_17 : decode cX9_order 17 = .ok (.iconst (-1), 1) := by decide +kernel
theorem dX9_order_18 : decode cX9_order 18 = .ok (.ireturn, 1) := by decide +kernel
theorem dX9_order_19 : decode cX9_order 19 = .ok (.aload_n 0, 1) := by decide +kernel
theorem dX9_order_20 : decode cX9_order 20 = .ok (.iload_n 1, 1) := by decide +kernel
theorem dX9_order_21 : decode cX9_order 21 = .ok (.iload_n 2, 1) := by decide +kernel
theorem dX9_order_22 : decode cX9_order 22 = .ok (.invokevirtual 207, 3) := by decide +kernel
theorem dX9_order_25 : decode cX9_order 25 = .ok (.istore_n 3, 1) := by decide +kernel
theorem dX9_order_26 : decode cX9_order 26 = .ok (.iload_n 3, 1) := by decide +kernel
theorem dX9_order_27 : decode cX9_order 27 = .ok (.ifCond .eq 5, 3) := by decide +kernel
theorem dX9_order_30 : decode cX9_order 30 = .ok (.iload_n 3, 1) := by decide +kernel
theorem dX9_order_31 : decode cX9_order 31 = .ok (.ireturn, 1) := by decide +kernel
theorem dX9_order_32 : decode cX9_order 32 = .ok (.iconst 0, 1) := by decide +kernel
theorem dX9_order_33 : decode cX9_order 33 = .ok (.istore 4, 2) := by decide +kernel
theorem dX9_order_35 : decode cX9_order 35 = .ok (.iload 4, 2) := by decide +kernel
theorem dX9_order_37 : decode cX9_order 37 = .ok (.aload_n 0, 1) := by decide +kernel
theorem dX9_order_38 : decode cX9_order 38 = .ok (.getfield 126, 3) := by decide +kernel
theorem dX9_order_41 : decode cX9_order 41 = .ok (.if_icmp .ge 59, 3) := by decide +kernel
theorem dX9_order_44 : decode cX9_order 44 = .ok (.aload_n 0, 1) := by decide +kernel
theorem dX9_order_45 : decode cX9_order 45 = .ok (.getfield 77, 3) := by decide +kernel
theorem dX9_order_48 : decode cX9_order 48 = .ok (.iload 4, 2) := by decide +kernel
theorem dX9_order_50 : decode cX9_order 50 = .ok (.baload, 1) := by decide +kernel
theorem dX9_order_51 : decode cX9_order 51 = .ok (.ifCond .eq 21, 3) := by decide +kernel
theorem dX9_order_54 : decode cX9_order 54 = .ok (.aload_n 0, 1) := by decide +kernel
theorem dX9_order_55 : decode cX9_order 55 = .ok (.getfield 31, 3) := by decide +kernel
theorem dX9_order_58 : decode cX9_order 58 = .ok (.iload 4, 2) := by decide +kernel
theorem dX9_order_60 : decode cX9_order 60 = .ok (.iaload, 1) := by decide +kernel
theorem dX9_order_61 : decode cX9_order 61 = .ok (.iconst 5, 1) := by decide +kernel
theorem dX9_order_62 : decode cX9_order 62 = .ok (.if_icmp .ne 10, 3) := by decide +kernel
theorem dX9_order_65 : decode cX9_order 65 = .ok (.aload_n 0, 1) := by decide +kernel
theorem dX9_order_66 : decode cX9_order 66 = .ok (.iload 4, 2) := by decide +kernel
theorem dX9_order_68 : decode cX9_order 68 = .ok (.iconst 0, 1) := by decide +kernel
theorem dX9_order_69 : decode cX9_order 69 = .ok (.invokevirtual 211, 3) := by decide +kernel
theorem dX9_order_72 : decode cX9_order 72 = .ok (.aload_n 0, 1) := by decide +kernel
theorem dX9_order_73 : decode cX9_order 73 = .ok (.getfield 71, 3) := by decide +kernel
theorem dX9_order_76 : decode cX9_order 76 = .ok (.iload 4, 2) := by decide +kernel
theorem dX9_order_78 : decode cX9_order 78 = .ok (.aload_n 0, 1) := by decide +kernel
theorem dX9_order_79 : decode cX9_order 79 = .ok (.getfield 86, 3) := by decide +kernel
theorem dX9_order_82 : decode cX9_order 82 = .ok (.iload 4, 2) := by decide +kernel
theorem dX9_order_84 : decode cX9_order 84 = .ok (.iaload, 1) := by decide +kernel
theorem dX9_order_85 : decode cX9_order 85 = .ok (.iastore, 1) := by decide +kernel
theorem dX9_order_86 : decode cX9_order 86 = .ok (.aload_n 0, 1) := by decide +kernel
theorem dX9_order_87 : decode cX9_order 87 = .ok (.getfield 74, 3) := by decide +kernel
theorem dX9_order_90 : decode cX9_order 90 = .ok (.iload 4, 2) := by decide +kernel
theorem dX9_order_92 : decode cX9_order 92 = .ok (.iconst 0, 1) := by decide +kernel
theorem dX9_order_93 : decode cX9_order 93 = .ok (.bastore, 1) := by decide +kernel
theorem dX9_order_94 : decode cX9_order 94 = .ok (.iinc 4 1, 3) := by decide +kernel
theorem dX9_order_97 : decode cX9_order 97 = .ok (.goto (-62), 3) := by decide +kernel
theorem dX9_order_100 : decode cX9_order 100 = .ok (.aload_n 0, 1) := by decide +kernel
theorem dX9_order_101 : decode cX9_order 101 = .ok (.invokevirtual 215, 3) := by decide +kernel
theorem dX9_order_104 : decode cX9_order 104 = .ok (.aload_n 0, 1) := by decide +kernel
theorem dX9_order_105 : decode cX9_order 105 = .ok (.getfield 86, 3) := by decide +kernel
theorem dX9_order_108 : decode cX9_order 108 = .ok (.aload_n 0, 1) := by decide +kernel
theorem dX9_order_109 : decode cX9_order 109 = .ok (.getfield 126, 3) := by decide +kernel
theorem dX9_order_112 : decode cX9_order 112 = .ok (.invokestatic 218, 3) := by decide +kernel
theorem dX9_order_115 : decode cX9_order 115 = .ok (.ireturn, 1) := by decide +kernel
theorem dX9_letter_0 : decode cX9_letter 0 = .ok (.aload_n 0, 1) := by decide +kernel
theorem dX9_letter_1 : decode cX9_letter 1 = .ok (.iload_n 1, 1) := by decide +kernel
theorem dX9_letter_2 : decode cX9_letter 2 = .ok (.invokevirtual 135, 3) := by decide +kernel
theorem dX9_letter_5 : decode cX9_letter 5 = .ok (.ifCond .ne 5, 3) := by decide +kernel
theorem dX9_letter_8 : decode cX9_letter 8 = .ok (.iconst (-1), 1) := by decide +kernel
theorem dX9_letter_9 : decode cX9_letter 9 = .ok (.ireturn, 1) := by decide +kernel
theorem dX9_letter_10 : decode cX9_letter 10 = .ok (.aload_n 0, 1) := by decide +kernel
theorem dX9_letter_11 : decode cX9_letter 11 = .ok (.getfield 9, 3) := by decide +kernel
theorem dX9_letter_14 : decode cX9_letter 14 = .ok (.iload_n 1, 1) := by decide +kernel
theorem dX9_letter_15 : decode cX9_letter 15 = .ok (.iaload, 1) := by decide +kernel
theorem dX9_letter_16 : decode cX9_letter 16 = .ok (.iconst 2, 1) := by decide +kernel
theorem dX9_letter_17 : decode cX9_letter 17 = .ok (.if_icmp .eq 6, 3) := by decide +kernel
theorem dX9_letter_20 : decode cX9_letter 20 = .ok (.bipush (-2), 2) := by decide +kernel
theorem dX9_letter_22 : decode cX9_letter 22 = .ok (.ireturn, 1) := by decide +kernel
theorem dX9_letter_23 : decode cX9_letter 23 = .ok (.aload_n 0, 1) := by decide +kernel
theorem dX9_letter_24 : decode cX9_letter 24 = .ok (.getfield 65, 3) := by decide +kernel
theorem dX9_letter_27 : decode cX9_letter 27 = .ok (.iload_n 1, 1) := by decide +kernel
theorem dX9_letter_28 : decode cX9_letter 28 = .ok (.iaload, 1) := by decide +kernel
theorem dX9_letter_29 : decode cX9_letter 29 = .ok (.bipush 20, 2) := by decide +kernel
theorem dX9_letter_31 : decode cX9_letter 31 = .ok (.if_icmp .ne 6, 3) := by decide +kernel
theorem dX9_letter_34 : decode cX9_letter 34 = .ok (.bipush (-6), 2) := by decide +kernel
theorem dX9_letter_36 : decode cX9_letter 36 = .ok (.ireturn, 1) := by decide +kernel
theorem dX9_letter_37 : decode cX9_letter 37 = .ok (.aload_n 0, 1) := by decide +kernel
theorem dX9_letter_38 : decode cX9_letter 38 = .ok (.getfield 62, 3) := by decide +kernel
theorem dX9_letter_41 : decode cX9_letter 41 = .ok (.bipush 20, 2) := by decide +kernel
theorem dX9_letter_43 : decode cX9_letter 43 = .ok (.iload_n 1, 1) := by decide +kernel
theorem dX9_letter_44 : decode cX9_letter 44 = .ok (.imul, 1) := by decide +kernel
theorem dX9_letter_45 : decode cX9_letter 45 = .ok (.aload_n 0, 1) := by decide +kernel
theorem dX9_letter_46 : decode cX9_letter 46 = .ok (.getfield 65, 3) := by decide +kernel
theorem dX9_letter_49 : decode cX9_letter 49 = .ok (.iload_n 1, 1) := by decide +kernel
theorem dX9_letter_50 : decode cX9_letter 50 = .ok (.iaload, 1) := by decide +kernel
theorem dX9_letter_51 : decode cX9_letter 51 = .ok (.iadd, 1) := by decide +kernel
theorem dX9_letter_52 : decode cX9_letter 52 = .ok (.aload_n 0, 1) := by decide +kernel
theorem dX9_letter_53 : decode cX9_letter 53 = .ok (.getfield 249, 3) := by decide +kernel
theorem dX9_letter_56 : decode cX9_letter 56 = .ok (.iastore, 1) := by decide +kernel
theorem dX9_letter_57 : decode cX9_letter 57 = .ok (.aload_n 0, 1) := by decide +kernel
theorem dX9_letter_58 : decode cX9_letter 58 = .ok (.getfield 65, 3) := by decide +kernel
theorem dX9_letter_61 : decode cX9_letter 61 = .ok (.iload_n 1, 1) := by decide +kernel
theorem dX9_letter_62 : decode cX9_letter 62 = .ok (.dup2, 1) := by decide +kernel
theorem dX9_letter_63 : decode cX9_letter 63 = .ok (.iaload, 1) := by decide +kernel
theorem dX9_letter_64 : decode cX9_letter 64 = .ok (.iconst 1, 1) := by decide +kernel
theorem dX9_letter_65 : decode cX9_letter 65 = .ok (.iadd, 1) := by decide +kernel
theorem dX9_letter_66 : decode cX9_letter 66 = .ok (.iastore, 1) := by decide +kernel
theorem dX9_letter_67 : decode cX9_letter 67 = .ok (.aload_n 0, 1) := by decide +kernel
theorem dX9_letter_68 : decode cX9_letter 68 = .ok (.dup, 1) := by decide +kernel
theorem dX9_letter_69 : decode cX9_letter 69 = .ok (.getfield 249, 3) := by decide +kernel
theorem dX9_letter_72 : decode cX9_letter 72 = .ok (.iconst 1, 1) := by decide +kernel
theorem dX9_letter_73 : decode cX9_letter 73 = .ok (.iadd, 1) := by decide +kernel
theorem dX9_letter_74 : decode cX9_letter 74 = .ok (.putfield 249, 3) := by decide +kernel
theorem dX9_letter_77 : decode cX9_letter 77 = .ok (.aload_n 0, 1) := by decide +kernel
theorem dX9_letter_78 : decode cX9_letter 78 = .ok (.getfield 31, 3) := by decide +kernel
theorem dX9_letter_81 : decode cX9_letter 81 = .ok (.iload_n 1, 1) := by decide +kernel
theorem dX9_letter_82 : decode cX9_letter 82 = .ok (.iaload, 1) := by decide +kernel
theorem dX9_letter_83 : decode cX9_letter 83 = .ok (.ifCond .ne 20, 3) := by decide +kernel
theorem dX9_letter_86 : decode cX9_letter 86 = .ok (.aload_n 0, 1) := by decide +kernel
theorem dX9_letter_87 : decode cX9_letter 87 = .ok (.getfield 197, 3) := by decide +kernel
theorem dX9_letter_90 : decode cX9_letter 90 = .ok (.istore_n 2, 1) := by decide +kernel
theorem dX9_letter_91 : decode cX9_letter 91 = .ok (.aload_n 0, 1) := by decide +kernel
theorem dX9_letter_92 : decode cX9_letter 92 = .ok (.iconst 0, 1) := by decide +kernel
theorem dX9_letter_93 : decode cX9_letter 93 = .ok (.iload_n 1, 1) := by decide +kernel
theorem dX9_letter_94 : decode cX9_letter 94 = .ok (.invokevirtual 252, 3) := by decide +kernel
theorem dX9_letter_97 : decode cX9_letter 97 = .ok (.istore_n 3, 1) := by decide +kernel
theorem dX9_letter_98 : decode cX9_letter 98 = .ok (.aload_n 0, 1) := by decide +kernel
theorem dX9_letter_99 : decode cX9_letter 99 = .ok (.iload_n 2, 1) := by decide +kernel
theorem dX9_letter_100 : decode cX9_letter 100 = .ok (.putfield 197, 3) := by decide +kernel
theorem dX9_letter_103 : decode cX9_letter 103 = .ok (.aload_n 0, 1) := by decide +kernel
theorem dX9_letter_104 : decode cX9_letter 104 = .ok (.getfield 249, 3) := by decide +kernel
theorem dX9_letter_107 : decode cX9_letter 107 = .ok (.iconst 1, 1) := by decide +kernel
theorem dX9_letter_108 : decode cX9_letter 108 = .ok (.isub, 1) := by decide +kernel
theorem dX9_letter_109 : decode cX9_letter 109 = .ok (.ireturn, 1) := by decide +kernel
def wq_m_addWanted : List Cond := [.code yX9_addWanted cX9_addWanted 5 none, .fieldLink RX9 126 "ServiceTreeModel" "services" "I", .fieldLink RX9 83 "ServiceTreeModel" "looked" "[Z", .fieldLink RX9 80 "ServiceTreeModel" "more" "[Z", .fieldLink RX9 77 "ServiceTreeModel" "member" "[Z", .methodLink RX9 174 yX9_addNeeds, .instanceMethod yX9_addNeeds, .selects RX9 yX9_addNeeds yX9_addNeeds, .initialized RX9, .methodLink RX9 178 yX9_clash, .instanceMethod yX9_clash, .selects RX9 yX9_clash yX9_clash, .methodLink RX9 182 yX9_memberRing, .instanceMethod yX9_memberRing, .selects RX9 yX9_memberRing yX9_memberRing, .methodLink RX9 150 yX9_has, .instanceMethod yX9_has, .selects RX9 yX9_has yX9_has] ++ (wsX90 ++ (wq_m_addNeeds_more ++ (wq_m_clash_more ++ (wq_m_memberRing_more ++ (wq_m_has)))))
theorem in_m_addWanted_X9 : ∀ w ∈ wsX90, w ∈ wq_m_addWanted := fun _ h => List.mem_append_right _ (List.mem_append_left _ (h))
set_option maxRecDepth 20000 in
theorem wi_m_addWanted : ∀ w ∈ wq_m_addWanted, w ∈ lw_tbl := List.forall_mem_append.mpr ⟨(by decide +kernel), List.forall_mem_append.mpr ⟨inKX9, List.forall_mem_append.mpr ⟨wi_m_addNeeds_more, List.forall_mem_append.mpr ⟨wi_m_clash_more, List.forall_mem_append.mpr ⟨wi_m_memberRing_more, wi_m_has⟩⟩⟩⟩⟩
set_option maxRecDepth 20000 in
theorem wg_m_addWanted : GoodIn wq_m_addWanted wq_m_addWanted := goodIn_sub (fun _ h => h) (by decide +kernel)
set_option maxRecDepth 20000 in
theorem wc_m_addWanted_m_addNeeds_more_174 : GoodIn wq_m_addWanted (wsV RX9 174 RX9 yX9_addNeeds wq_m_addNeeds_more) := goodIn_app (goodIn_of _ (by decide +kernel)) (fun w h => ⟨List.mem_append_right _ (List.mem_append_right _ (List.mem_append_left _ (h))), (wg_m_addNeeds_more w h).2⟩)
set_option maxRecDepth 20000 in
theorem wc_m_addWanted_m_clash_more_178 : GoodIn wq_m_addWanted (wsV RX9 178 RX9 yX9_clash wq_m_clash_more) := goodIn_app (goodIn_of _ (by decide +kernel)) (fun w h => ⟨List.mem_append_right _ (List.mem_append_right _ (List.mem_append_right _ (List.mem_append_left _ (h)))), (wg_m_clash_more w h).2⟩)
set_option maxRecDepth 20000 in
theorem wc_m_addWanted_m_memberRing_more_182 : GoodIn wq_m_addWanted (wsV RX9 182 RX9 yX9_memberRing wq_m_memberRing_more) := goodIn_app (goodIn_of _ (by decide +kernel)) (fun w h => ⟨List.mem_append_right _ (List.mem_append_right _ (List.mem_append_right _ (List.mem_append_right _ (List.mem_append_left _ (h))))), (wg_m_memberRing_more w h).2⟩)
set_option maxRecDepth 20000 in
theorem wc_m_addWanted_m_has_150 : GoodIn wq_m_addWanted (wsV RX9 150 RX9 yX9_has wq_m_has) := goodIn_app (goodIn_of _ (by decide +kernel)) (fun w h => ⟨List.mem_append_right _ (List.mem_append_right _ (List.mem_append_right _ (List.mem_append_right _ (List.mem_append_right _ (h))))), (wg_m_has w h).2⟩)
def rm_m_addWanted : Room := { frames := 2, cells := 0, slots := 0, locals := 48 }
set_option maxHeartbeats 4000000 in
set_option maxRecDepth 100000 in
theorem c_m_addWanted (l : Launch) (dC : Nat → ClassId) (dI : Nat → Nat → Nat) (h : Nat) (a : Nat → Nat) (k : Nat → ClassId) (F : Nat → Nat → Int32) (V : Nat → Int32) (n b : Nat)  (sz : Nat) (hI0 : InvM n b F V) (hb0 : b + 0 < 2147483648)  : Met l yX9_addWanted wq_m_addWanted rm_m_addWanted (va_Pc [.ref h] (fun U => U.heap.size = sz ∧ va_P (dC, dI) vwCl (mW h a k F V) U.heap ∧ va_K (dC, dI) vwCl (mT k) U ∧ va_D (fun _ => True) (mW h a k F V))) (va_Qv (fun (u : (Nat → Nat → Int32) × (Nat → Int32)) => StM n (b + 0) F V u.1 u.2 ∧ (∀ j : Nat, j ∉ ([27, 28, 29, 31, 32] : List Nat) → u.1 j = F j) ∧ (∀ j : Nat, j ∉ ([] : List Nat) → u.2 j = V j) ∧ (True)) (fun (u : (Nat → Nat → Int32) × (Nat → Int32)) (t : State) => va_P (dC, dI) vwCl (mW h a k u.1 u.2) t.heap ∧ va_D (va_A (mW h a k F V) sz) (mW h a k u.1 u.2)) (va_A (mW h a k F V) sz)) 0 0 (va_A (mW h a k F V) sz) := by
  have hn : n ≤ 40 := hI0.1
  have hI : StM n b F V F V := StM.rf hI0
  have hU : ∀ j : Nat, j ∉ ([27, 28, 29, 31, 32] : List Nat) → F j = F j := fun _ _ => rfl
  have hV : ∀ j : Nat, j ∉ ([] : List Nat) → V j = V j := fun _ _ => rfl
  refine Met.ofW (cc := cX9_addWanted) (maxL := 5) (ret := none) (by decide) rfl ?_
  intro p e s m args below meth c s₁ B hml hv
  obtain ⟨rfl, hsz, hP, hK, hD0⟩ := hv
  have hx := B.exec
  have hb := B.bytes
  have hr := B.returns
  have hts := atoms_spec (ws := wq_m_addWanted) B.pre
  have hown : s.vm.findClass RX9 = some m.cls := findClass_of_methodNamed B.named
  have hlocks := B.notSynchronized
  subst hsz
  have hD := hD0.self (sz := s.heap.size)
  generalize hAe : va_A (mW h a k F V) s.heap.size = A at hD ⊢
  have hA : ∀ q : Nat, s.heap.size ≤ q → A q := fun q h => by rw [← hAe]; exact Or.inr h
  have hS : va_S A s.heap s.heap [] := va_S.rf
  have hl := lv_entry ([.ref h]) (n := 5) (Nat.le_of_ble_eq_true rfl)
  rw [lg_entry_eq]
  generalize (lg_sl ([.ref h]) ++ List.replicate (5 - (lg_sl ([.ref h])).length) Slot.unset).toArray = ls at hl ⊢
  have hl : lv_has ls 5 [(0, .ref h)] := hl
  refine mw_Q (fun Q0 hQ => ?_)
  refine lv_iconst (v := 1) hx hb dX9_addWanted_0 (by decide) ?_
  refine lv_istore_n (lv' := [(1, .int 1), (0, .ref h)]) hx hb dX9_addWanted_1 rfl hl (by decide) rfl (fun ls hl => ?_)
  have lp4 : ∀ (fu2 i1 : Nat) (y7 : Int32) (F5 : Nat → Nat → Int32) (V6 : Nat → Int32) (H : Heap) (locs : List Loc) (ls : Array Slot), 41 < i1 + fu2 → i1 ≤ 41 → StM n (b) F V F5 V6 → (∀ j : Nat, j ∉ ([27, 28, 29, 31, 32] : List Nat) → F5 j = F j) → (∀ j : Nat, j ∉ ([] : List Nat) → V6 j = V j) → (¬ y7 = 0 → i1 + zc (F5 29) 40 ≤ 40) → va_P (dC, dI) vwCl (mW h a k F5 V6) H → va_D A (mW h a k F5 V6) → va_S A s.heap H locs → lv_has ls 5 [(1, .int y7), (0, .ref h)] → W p l e (headSpec wq_m_addWanted rm_m_addWanted).room s m ([.ref h] : List Value).toArray below meth c H locs 0 0 Q0 (F0 m 2 ls []) := by
    intro fu2
    induction fu2 with
    | zero =>
      intro i1 y7 F5 V6 H locs ls hf hi
      exact absurd hf (by omega)
    | succ fu2 ih3 =>
      intro i1 y7 F5 V6 H locs ls hfi1 hii1 hI hU hV hEi1 hP hD hS hl
      refine lv_iload_n hx hb dX9_addWanted_2 rfl (lv_at hl 0 rfl) ?_
      refine lv_if_eq (tgt := 205) hx hb dX9_addWanted_3 (by decide) (fun c8 => ?_) (fun c8 => ?_)
      · rw [hQ]
        exact W.vret hx hb hr (fun t ht hW => ⟨⟨(F5, V6), rfl, ⟨hI.mono (by omega), hU, hV, trivial⟩, by rw [ht]; exact hP, hD⟩, hS.F ht⟩) hS.2.2 dX9_addWanted_205
      · have hz0 := hEi1 c8
        refine lv_iconst (v := 0) hx hb dX9_addWanted_6 (by decide) ?_
        refine lv_istore_n (lv' := [(1, .int 0), (0, .ref h)]) hx hb dX9_addWanted_7 rfl hl (by decide) rfl (fun ls hl => ?_)
        refine lv_iconst (v := (-1)) hx hb dX9_addWanted_8 (by decide) ?_
        refine lv_istore_n (lv' := [(2, .int (-1)), (1, .int 0), (0, .ref h)]) hx hb dX9_addWanted_9 rfl hl (by decide) rfl (fun ls hl => ?_)
        refine lv_aload_n hx hb dX9_addWanted_10 rfl (lv_at hl 2 rfl) ?_
        refine va_get (D := (dC, dI)) (ci := 10) (v := .int (V6 21)) (C := RX9) (T := TX9) (N := 46) hx hb hts in_m_addWanted_X9 hown hK hP 0 rfl rfl 21 (by decide) (hts (.fieldLink RX9 126 "ServiceTreeModel" "services" "I") (by decide +kernel)) (fun _ h9 => h9) rfl dX9_addWanted_11 ?_
        refine p1_topr (v := .int (nI n)) (congrArg Value.int hI.1.2.1) ?_
        refine lv_iconst (v := 1) hx hb dX9_addWanted_14 (by decide) ?_
        refine lv_isub hx hb dX9_addWanted_15 ?_
        refine lv_topi (fun x9 ex9 => ?_)
        obtain rfl : x9 = nI n + (-1) := ex9.trans (Int32.sub_eq_add_neg _ _)
        refine lv_istore_n (lv' := [(3, .int (nI n + (-1))), (2, .int (-1)), (1, .int 0), (0, .ref h)]) hx hb dX9_addWanted_16 rfl hl (by decide) rfl (fun ls hl => ?_)
        have lp13 : ∀ (fu11 i10 : Nat) (y14 : Int32) (H : Heap) (locs : List Loc) (ls : Array Slot), i10 < fu11 → i10 ≤ n → (y14 = -1 ∨ ∃ j9 : Nat, j9 < n ∧ y14 = nI j9 ∧ F5 29 (nI j9).toNatClampNeg = 0) → va_P (dC, dI) vwCl (mW h a k F5 V6) H → va_D A (mW h a k F5 V6) → va_S A s.heap H locs → lv_has ls 5 [(3, .int (nI i10 + (-1))), (2, .int y14), (1, .int 0), (0, .ref h)] → W p l e (headSpec wq_m_addWanted rm_m_addWanted).room s m ([.ref h] : List Value).toArray below meth c H locs 0 0 Q0 (F0 m 17 ls []) := by
          intro fu11
          induction fu11 with
          | zero =>
            intro i10 y14 H locs ls hf hi
            exact absurd hf (by omega)
          | succ fu11 ih12 =>
            intro i10 y14 H locs ls hfi10 hii10 hwai10 hP hD hS hl
            refine lv_iload_n hx hb dX9_addWanted_17 rfl (lv_at hl 0 rfl) ?_
            refine lv_if_lt (tgt := 90) hx hb dX9_addWanted_18 (by decide) (fun c15 => ?_) (fun c15 => ?_)
            · refine lv_iload_n hx hb dX9_addWanted_90 rfl (lv_at hl 1 rfl) ?_
              refine lv_if_lt (tgt := 202) hx hb dX9_addWanted_91 (by decide) (fun c16 => ?_) (fun c16 => ?_)
              · refine lv_goto (tgt := 2) hx hb dX9_addWanted_202 (by decide) ?_
                exact ih3 (i1 + 1) 0 F5 V6 _ _ _ (by omega) (by omega) (hI.mono (by omega)) hU hV (fun q9 => absurd rfl q9) hP hD hS (lv_sub hl [2, 3] rfl)
              · obtain ⟨j17, hj17, ej17, zj17⟩ : ∃ j9 : Nat, j9 < n ∧ y14 = nI j9 ∧ F5 29 (nI j9).toNatClampNeg = 0 := by
                  rcases hwai10 with h9 | h9
                  · exact absurd (by rw [h9]; decide) c16
                  · exact h9
                subst ej17
                refine lv_iconst (v := 1) hx hb dX9_addWanted_94 (by decide) ?_
                refine lv_istore_n (lv' := [(1, .int 1), (3, .int (nI i10 + (-1))), (2, .int (nI j17)), (0, .ref h)]) hx hb dX9_addWanted_95 rfl hl (by decide) rfl (fun ls hl => ?_)
                refine lv_aload_n hx hb dX9_addWanted_96 rfl (lv_at hl 3 rfl) ?_
                refine va_get (D := (dC, dI)) (ci := 10) (v := .ref (a 29)) (C := RX9) (T := TX9) (N := 46) hx hb hts in_m_addWanted_X9 hown hK hP 0 rfl rfl 29 (by decide) (hts (.fieldLink RX9 83 "ServiceTreeModel" "looked" "[Z") (by decide +kernel)) (fun _ h9 => h9) rfl dX9_addWanted_97 ?_
                refine lv_iload_n hx hb dX9_addWanted_100 rfl (lv_at hl 2 rfl) ?_
                refine lv_iconst (v := 1) hx hb dX9_addWanted_101 (by decide) ?_
                refine va_zast (n := 40) (f := F5 29) hx hb hK hP hD hS 25 24 rfl rfl (vp_in_nI (n := j17) (by omega) (by decide)) dX9_addWanted_102 (fun H locs hP hD hS => ?_)
                rw [mW_set_29] at hP hD
                obtain ⟨F18, eF18⟩ : ∃ f9 : Nat → Nat → Int32, f9 = va_up F5 29 (upd (F5 29) (nI j17).toNatClampNeg (vp_nar .boolean 1)) := ⟨_, rfl⟩
                rw [← eF18] at hP hD
                replace hI : StM n (b) F V F18 V6 := ⟨by rw [eF18]; exact hI.1.setF (by decide), trivial⟩
                replace hU : ∀ j : Nat, j ∉ ([27, 28, 29, 31, 32] : List Nat) → F18 j = F j := by rw [eF18]; exact mw_up (by decide) hU
                have hlt : zc (F18 29) 40 < zc (F5 29) 40 := by rw [eF18, va_up_self]; exact zc_lt zj17 (by decide) 40 (by rw [nI_clamp (by omega)]; omega)
                have t29 : F18 29 = F18 29 := rfl
                refine lv_iconst (v := 0) hx hb dX9_addWanted_103 (by decide) ?_
                refine lv_istore_n (lv' := [(3, .int 0), (1, .int 1), (2, .int (nI j17)), (0, .ref h)]) hx hb dX9_addWanted_104 rfl hl (by decide) rfl (fun ls hl => ?_)
                have lp22 : ∀ (fu20 i19 : Nat)  (F23 : Nat → Nat → Int32) (V24 : Nat → Int32) (H : Heap) (locs : List Loc) (ls : Array Slot), n < i19 + fu20 → i19 ≤ n → StM n (b) F V F23 V24 → (∀ j : Nat, j ∉ ([27, 28, 29, 31, 32] : List Nat) → F23 j = F j) → (∀ j : Nat, j ∉ ([] : List Nat) → V24 j = V j) → F23 29 = F18 29 → va_P (dC, dI) vwCl (mW h a k F23 V24) H → va_D A (mW h a k F23 V24) → va_S A s.heap H locs → lv_has ls 5 [(3, .int (nI i19)), (1, .int 1), (2, .int (nI j17)), (0, .ref h)] → W p l e (headSpec wq_m_addWanted rm_m_addWanted).room s m ([.ref h] : List Value).toArray below meth c H locs 0 0 Q0 (F0 m 105 ls []) := by
                  intro fu20
                  induction fu20 with
                  | zero =>
                    intro i19  F23 V24 H locs ls hf hi
                    exact absurd hf (by omega)
                  | succ fu20 ih21 =>
                    intro i19  F23 V24 H locs ls hfi19 hii19 hI hU hV t29qi19 hP hD hS hl
                    have t29 := t29qi19
                    refine lv_iload_n hx hb dX9_addWanted_105 rfl (lv_at hl 0 rfl) ?_
                    refine lv_aload_n hx hb dX9_addWanted_106 rfl (lv_at hl 3 rfl) ?_
                    refine va_get (D := (dC, dI)) (ci := 10) (v := .int (V24 21)) (C := RX9) (T := TX9) (N := 46) hx hb hts in_m_addWanted_X9 hown hK hP 0 rfl rfl 21 (by decide) (hts (.fieldLink RX9 126 "ServiceTreeModel" "services" "I") (by decide +kernel)) (fun _ h9 => h9) rfl dX9_addWanted_107 ?_
                    refine p1_topr (v := .int (nI n)) (congrArg Value.int hI.1.2.1) ?_
                    refine lv_icmp_ge (tgt := 144) hx hb dX9_addWanted_110 (by decide) (fun c25 => ?_) (fun c25 => ?_)
                    · replace c25 : n ≤ i19 := (nI_leI (a := n) (b := i19) (by omega) (by omega)).mp c25
                      refine lv_aload_n hx hb dX9_addWanted_144 rfl (lv_at hl 3 rfl) ?_
                      refine lv_aload_n hx hb dX9_addWanted_145 rfl (lv_at hl 3 rfl) ?_
                      refine va_get (D := (dC, dI)) (ci := 10) (v := .ref (a 28)) (C := RX9) (T := TX9) (N := 46) hx hb hts in_m_addWanted_X9 hown hK hP 0 rfl rfl 28 (by decide) (hts (.fieldLink RX9 80 "ServiceTreeModel" "more" "[Z") (by decide +kernel)) (fun _ h9 => h9) rfl dX9_addWanted_146 ?_
                      have hFc := mw_free hD hS hA
                      refine va_callv (va_runV (As := [.ref (a 28)]) (rest := []) ⟨hx, hb, hml, hown, hts⟩ (c_m_addNeeds_more l dC dI h a k F23 V24 n (b)  H.size hI.1 (by omega) ) (cwV 1 hts wc_m_addWanted_m_addNeeds_more_174 rfl rfl rfl (by decide +kernel) ⟨Nat.le_of_ble_eq_true rfl, Nat.le_of_ble_eq_true rfl⟩) ⟨fun a9 U g mk q => by obtain ⟨q0, q1, qP, qK, qD⟩ := q; exact ⟨q0, q1, qP, va_K.moved (u := U) (U := U.calling g mk a9) (Vm.Alike.refl U.vm) qK, qD⟩, va_recv hK hP (ci := 10) (q0 := 0) rfl rfl, fun U hU hW => ⟨rfl, by rw [hU], by rw [hU]; exact hP, va_K.moved hW.alike hK, hD.weaken (fun _ _ _ _ => trivial)⟩⟩ rfl rfl hl.1 rfl (lv_room (Nat.le_of_ble_eq_true rfl)) dX9_addWanted_149 ⟨Nat.le_of_ble_eq_true rfl, Nat.le_of_ble_eq_true rfl⟩) hS (fun q _ h => hFc q h) hFc (fun u t H1 locs ht hvm hw hB hz1 hk1 hS => ?_)
                      obtain ⟨F27, V28⟩ := u
                      replace hP := hB.1
                      rw [ht] at hP
                      replace hD : va_D A (mW h a k F27 V28) := hB.2.weaken (fun _ q _ h9 => hFc q.1 h9)
                      clear hB
                      generalize H1 = H at hP hS ⊢
                      replace hP : va_P (dC, dI) vwCl (mW h a k F27 V28) H := hP
                      obtain ⟨hwI, hwU, hwV, hw⟩ := hw
                      replace hU : ∀ j : Nat, j ∉ ([27, 28, 29, 31, 32] : List Nat) → F27 j = F j := mw_tr (by decide) hwU hU
                      replace hV : ∀ j : Nat, j ∉ ([] : List Nat) → V28 j = V j := mw_tr (by decide) hwV hV
                      replace hI : StM n (b + 0) F V F27 V28 := hI.trans hwI
                      replace t29 : F27 29 = F18 29 := (hwU 29 (by decide)).trans t29
                      replace hI : StM n (b) F V F27 V28 := hI
                      refine lv_aload_n hx hb dX9_addWanted_152 rfl (lv_at hl 3 rfl) ?_
                      refine lv_aload_n hx hb dX9_addWanted_153 rfl (lv_at hl 3 rfl) ?_
                      refine va_get (D := (dC, dI)) (ci := 10) (v := .ref (a 28)) (C := RX9) (T := TX9) (N := 46) hx hb hts in_m_addWanted_X9 hown hK hP 0 rfl rfl 28 (by decide) (hts (.fieldLink RX9 80 "ServiceTreeModel" "more" "[Z") (by decide +kernel)) (fun _ h9 => h9) rfl dX9_addWanted_154 ?_
                      have hFc := mw_free hD hS hA
                      refine va_calli (va_runV (As := [.ref (a 28)]) (rest := []) ⟨hx, hb, hml, hown, hts⟩ (c_m_clash_more l dC dI h a k F27 V28 n (b)  H.size hI.1 (by omega) ) (cwV 1 hts wc_m_addWanted_m_clash_more_178 rfl rfl rfl (by decide +kernel) ⟨Nat.le_of_ble_eq_true rfl, Nat.le_of_ble_eq_true rfl⟩) ⟨fun a9 U g mk q => by obtain ⟨q0, q1, qP, qK, qD⟩ := q; exact ⟨q0, q1, qP, va_K.moved (u := U) (U := U.calling g mk a9) (Vm.Alike.refl U.vm) qK, qD⟩, va_recv hK hP (ci := 10) (q0 := 0) rfl rfl, fun U hU hW => ⟨rfl, by rw [hU], by rw [hU]; exact hP, va_K.moved hW.alike hK, hD.weaken (fun _ _ _ _ => trivial)⟩⟩ rfl rfl hl.1 rfl (lv_room (Nat.le_of_ble_eq_true rfl)) dX9_addWanted_157 ⟨Nat.le_of_ble_eq_true rfl, Nat.le_of_ble_eq_true rfl⟩) hS (fun q _ h => hFc q h) hFc (fun r29 u t H1 locs ht hvm hw hB hz1 hk1 hS => ?_)
                      obtain ⟨F30, V31⟩ := u
                      replace hP := hB.1
                      rw [ht] at hP
                      replace hD : va_D A (mW h a k F30 V31) := hB.2.weaken (fun _ q _ h9 => hFc q.1 h9)
                      clear hB
                      generalize H1 = H at hP hS ⊢
                      replace hP : va_P (dC, dI) vwCl (mW h a k F30 V31) H := hP
                      obtain ⟨hwF, hwV, hw⟩ : F30 = F27 ∧ V31 = V28 ∧ _ := hw
                      rw [hwF, hwV] at hP hD
                      have br29 := hw
                      refine lv_if_ne (tgt := 202) hx hb dX9_addWanted_160 (by decide) (fun c32 => ?_) (fun c32 => ?_)
                      · refine lv_goto (tgt := 2) hx hb dX9_addWanted_202 (by decide) ?_
                        exact ih3 (i1 + 1) 1 F27 V28 _ _ _ (by omega) (by omega) (hI.mono (by omega)) hU hV (fun _ => (show i1 + 1 + zc (F27 29) 40 ≤ 40 by rw [t29]; omega)) hP hD hS (lv_sub hl [1, 3] rfl)
                      · refine lv_aload_n hx hb dX9_addWanted_163 rfl (lv_at hl 3 rfl) ?_
                        refine lv_aload_n hx hb dX9_addWanted_164 rfl (lv_at hl 3 rfl) ?_
                        refine va_get (D := (dC, dI)) (ci := 10) (v := .ref (a 28)) (C := RX9) (T := TX9) (N := 46) hx hb hts in_m_addWanted_X9 hown hK hP 0 rfl rfl 28 (by decide) (hts (.fieldLink RX9 80 "ServiceTreeModel" "more" "[Z") (by decide +kernel)) (fun _ h9 => h9) rfl dX9_addWanted_165 ?_
                        have hFc := mw_free hD hS hA
                        refine va_calli (va_runV (As := [.ref (a 28)]) (rest := []) ⟨hx, hb, hml, hown, hts⟩ (c_m_memberRing_more l dC dI h a k F27 V28 n (b)  H.size hI.1 (by omega) ) (cwV 1 hts wc_m_addWanted_m_memberRing_more_182 rfl rfl rfl (by decide +kernel) ⟨Nat.le_of_ble_eq_true rfl, Nat.le_of_ble_eq_true rfl⟩) ⟨fun a9 U g mk q => by obtain ⟨q0, q1, qP, qK, qD⟩ := q; exact ⟨q0, q1, qP, va_K.moved (u := U) (U := U.calling g mk a9) (Vm.Alike.refl U.vm) qK, qD⟩, va_recv hK hP (ci := 10) (q0 := 0) rfl rfl, fun U hU hW => ⟨rfl, by rw [hU], by rw [hU]; exact hP, va_K.moved hW.alike hK, hD.weaken (fun _ _ _ _ => trivial)⟩⟩ rfl rfl hl.1 rfl (lv_room (Nat.le_of_ble_eq_true rfl)) dX9_addWanted_168 ⟨Nat.le_of_ble_eq_true rfl, Nat.le_of_ble_eq_true rfl⟩) hS (fun q _ h => hFc q h) hFc (fun r33 u t H1 locs ht hvm hw hB hz1 hk1 hS => ?_)
                        obtain ⟨F34, V35⟩ := u
                        replace hP := hB.1
                        rw [ht] at hP
                        replace hD : va_D A (mW h a k F34 V35) := hB.2.weaken (fun _ q _ h9 => hFc q.1 h9)
                        clear hB
                        generalize H1 = H at hP hS ⊢
                        replace hP : va_P (dC, dI) vwCl (mW h a k F34 V35) H := hP
                        obtain ⟨hwI, hwU, hwV, hw⟩ := hw
                        replace hU : ∀ j : Nat, j ∉ ([27, 28, 29, 31, 32] : List Nat) → F34 j = F j := mw_tr (by decide) hwU hU
                        replace hV : ∀ j : Nat, j ∉ ([] : List Nat) → V35 j = V j := mw_tr (by decide) hwV hV
                        replace hI : StM n (b + 0) F V F34 V35 := hI.trans hwI
                        replace t29 : F34 29 = F18 29 := (hwU 29 (by decide)).trans t29
                        replace hI : StM n (b) F V F34 V35 := hI
                        refine lv_if_ne (tgt := 202) hx hb dX9_addWanted_171 (by decide) (fun c36 => ?_) (fun c36 => ?_)
                        · refine lv_goto (tgt := 2) hx hb dX9_addWanted_202 (by decide) ?_
                          exact ih3 (i1 + 1) 1 F34 V35 _ _ _ (by omega) (by omega) (hI.mono (by omega)) hU hV (fun _ => (show i1 + 1 + zc (F34 29) 40 ≤ 40 by rw [t29]; omega)) hP hD hS (lv_sub hl [1, 3] rfl)
                        · refine lv_iconst (v := 0) hx hb dX9_addWanted_174 (by decide) ?_
                          refine lv_istore_n (lv' := [(3, .int 0), (1, .int 1), (2, .int (nI j17)), (0, .ref h)]) hx hb dX9_addWanted_175 rfl hl (by decide) rfl (fun ls hl => ?_)
                          have lp40 : ∀ (fu38 i37 : Nat)  (F41 : Nat → Nat → Int32) (V42 : Nat → Int32) (H : Heap) (locs : List Loc) (ls : Array Slot), n < i37 + fu38 → i37 ≤ n → StM n (b) F V F41 V42 → (∀ j : Nat, j ∉ ([27, 28, 29, 31, 32] : List Nat) → F41 j = F j) → (∀ j : Nat, j ∉ ([] : List Nat) → V42 j = V j) → F41 29 = F18 29 → va_P (dC, dI) vwCl (mW h a k F41 V42) H → va_D A (mW h a k F41 V42) → va_S A s.heap H locs → lv_has ls 5 [(3, .int (nI i37)), (1, .int 1), (2, .int (nI j17)), (0, .ref h)] → W p l e (headSpec wq_m_addWanted rm_m_addWanted).room s m ([.ref h] : List Value).toArray below meth c H locs 0 0 Q0 (F0 m 176 ls []) := by
                            intro fu38
                            induction fu38 with
                            | zero =>
                              intro i37  F41 V42 H locs ls hf hi
                              exact absurd hf (by omega)
                            | succ fu38 ih39 =>
                              intro i37  F41 V42 H locs ls hfi37 hii37 hI hU hV t29qi37 hP hD hS hl
                              have t29 := t29qi37
                              refine lv_iload_n hx hb dX9_addWanted_176 rfl (lv_at hl 0 rfl) ?_
                              refine lv_aload_n hx hb dX9_addWanted_177 rfl (lv_at hl 3 rfl) ?_
                              refine va_get (D := (dC, dI)) (ci := 10) (v := .int (V42 21)) (C := RX9) (T := TX9) (N := 46) hx hb hts in_m_addWanted_X9 hown hK hP 0 rfl rfl 21 (by decide) (hts (.fieldLink RX9 126 "ServiceTreeModel" "services" "I") (by decide +kernel)) (fun _ h9 => h9) rfl dX9_addWanted_178 ?_
                              refine p1_topr (v := .int (nI n)) (congrArg Value.int hI.1.2.1) ?_
                              refine lv_icmp_ge (tgt := 202) hx hb dX9_addWanted_181 (by decide) (fun c43 => ?_) (fun c43 => ?_)
                              · replace c43 : n ≤ i37 := (nI_leI (a := n) (b := i37) (by omega) (by omega)).mp c43
                                refine lv_goto (tgt := 2) hx hb dX9_addWanted_202 (by decide) ?_
                                exact ih3 (i1 + 1) 1 F41 V42 _ _ _ (by omega) (by omega) (hI.mono (by omega)) hU hV (fun _ => (show i1 + 1 + zc (F41 29) 40 ≤ 40 by rw [t29]; omega)) hP hD hS (lv_sub hl [1, 3] rfl)
                              · replace c43 : ¬ (n ≤ i37) := fun q9 => c43 ((nI_leI (a := n) (b := i37) (by omega) (by omega)).mpr q9)
                                refine lv_aload_n hx hb dX9_addWanted_184 rfl (lv_at hl 3 rfl) ?_
                                refine va_get (D := (dC, dI)) (ci := 10) (v := .ref (a 27)) (C := RX9) (T := TX9) (N := 46) hx hb hts in_m_addWanted_X9 hown hK hP 0 rfl rfl 27 (by decide) (hts (.fieldLink RX9 77 "ServiceTreeModel" "member" "[Z") (by decide +kernel)) (fun _ h9 => h9) rfl dX9_addWanted_185 ?_
                                refine lv_iload_n hx hb dX9_addWanted_188 rfl (lv_at hl 0 rfl) ?_
                                refine lv_aload_n hx hb dX9_addWanted_189 rfl (lv_at hl 3 rfl) ?_
                                refine va_get (D := (dC, dI)) (ci := 10) (v := .ref (a 28)) (C := RX9) (T := TX9) (N := 46) hx hb hts in_m_addWanted_X9 hown hK hP 0 rfl rfl 28 (by decide) (hts (.fieldLink RX9 80 "ServiceTreeModel" "more" "[Z") (by decide +kernel)) (fun _ h9 => h9) rfl dX9_addWanted_190 ?_
                                refine lv_iload_n hx hb dX9_addWanted_193 rfl (lv_at hl 0 rfl) ?_
                                refine va_zald (n := 40) (f := F41 28) hx hb hK hP 24 23 rfl rfl (vp_in_nI (n := i37) (by omega) (by decide)) dX9_addWanted_194 ?_
                                refine lv_topi (fun x44 ex44 => ?_)
                                refine va_zast (n := 40) (f := F41 27) hx hb hK hP hD hS 23 22 rfl rfl (vp_in_nI (n := i37) (by omega) (by decide)) dX9_addWanted_195 (fun H locs hP hD hS => ?_)
                                rw [mW_set_27] at hP hD
                                obtain ⟨F45, eF45⟩ : ∃ f9 : Nat → Nat → Int32, f9 = va_up F41 27 (upd (F41 27) (nI i37).toNatClampNeg (vp_nar .boolean x44)) := ⟨_, rfl⟩
                                rw [← eF45] at hP hD
                                replace hI : StM n (b) F V F45 V42 := ⟨by rw [eF45]; exact hI.1.setF (by decide), trivial⟩
                                replace hU : ∀ j : Nat, j ∉ ([27, 28, 29, 31, 32] : List Nat) → F45 j = F j := by rw [eF45]; exact mw_up (by decide) hU
                                replace t29 : F45 29 = F18 29 := by rw [eF45]; exact (va_up_ne _ _ (by decide)).trans t29
                                refine lv_iinc (v := nI (i37 + 1)) (lv' := [(3, .int (nI (i37 + 1))), (1, .int 1), (2, .int (nI j17)), (0, .ref h)]) hx hb dX9_addWanted_196 hl (k := 0) rfl (nI_add i37 1) (by decide) rfl (fun ls hl => ?_)
                                refine lv_goto (tgt := 176) hx hb dX9_addWanted_199 (by decide) ?_
                                exact ih39 (i37 + 1)  F45 V42 _ _ _ (by omega) (by omega) (hI.mono (by omega)) hU hV t29 hP hD hS (lv_sub hl [0, 1, 2, 3] rfl)
                          exact lp40 (n + 1) 0  F34 V35 _ _ _ (by omega) (by omega) (hI.mono (by omega)) hU hV t29 hP hD hS hl
                    · replace c25 : ¬ (n ≤ i19) := fun q9 => c25 ((nI_leI (a := n) (b := i19) (by omega) (by omega)).mpr q9)
                      refine lv_aload_n hx hb dX9_addWanted_113 rfl (lv_at hl 3 rfl) ?_
                      refine va_get (D := (dC, dI)) (ci := 10) (v := .ref (a 28)) (C := RX9) (T := TX9) (N := 46) hx hb hts in_m_addWanted_X9 hown hK hP 0 rfl rfl 28 (by decide) (hts (.fieldLink RX9 80 "ServiceTreeModel" "more" "[Z") (by decide +kernel)) (fun _ h9 => h9) rfl dX9_addWanted_114 ?_
                      refine lv_iload_n hx hb dX9_addWanted_117 rfl (lv_at hl 0 rfl) ?_
                      refine lv_aload_n hx hb dX9_addWanted_118 rfl (lv_at hl 3 rfl) ?_
                      refine va_get (D := (dC, dI)) (ci := 10) (v := .ref (a 27)) (C := RX9) (T := TX9) (N := 46) hx hb hts in_m_addWanted_X9 hown hK hP 0 rfl rfl 27 (by decide) (hts (.fieldLink RX9 77 "ServiceTreeModel" "member" "[Z") (by decide +kernel)) (fun _ h9 => h9) rfl dX9_addWanted_119 ?_
                      refine lv_iload_n hx hb dX9_addWanted_122 rfl (lv_at hl 0 rfl) ?_
                      refine va_zald (n := 40) (f := F23 27) hx hb hK hP 23 22 rfl rfl (vp_in_nI (n := i19) (by omega) (by decide)) dX9_addWanted_123 ?_
                      refine lv_topi (fun x46 ex46 => ?_)
                      refine lv_if_ne (tgt := 132) hx hb dX9_addWanted_124 (by decide) (fun c47 => ?_) (fun c47 => ?_)
                      · refine lv_iconst (v := 1) hx hb dX9_addWanted_132 (by decide) ?_
                        refine lv_goto (tgt := 137) hx hb dX9_addWanted_133 (by decide) ?_
                        refine va_zast (n := 40) (f := F23 28) hx hb hK hP hD hS 24 23 rfl rfl (vp_in_nI (n := i19) (by omega) (by decide)) dX9_addWanted_137 (fun H locs hP hD hS => ?_)
                        rw [mW_set_28] at hP hD
                        obtain ⟨F48, eF48⟩ : ∃ f9 : Nat → Nat → Int32, f9 = va_up F23 28 (upd (F23 28) (nI i19).toNatClampNeg (vp_nar .boolean 1)) := ⟨_, rfl⟩
                        rw [← eF48] at hP hD
                        replace hI : StM n (b) F V F48 V24 := ⟨by rw [eF48]; exact hI.1.setF (by decide), trivial⟩
                        replace hU : ∀ j : Nat, j ∉ ([27, 28, 29, 31, 32] : List Nat) → F48 j = F j := by rw [eF48]; exact mw_up (by decide) hU
                        replace t29 : F48 29 = F18 29 := by rw [eF48]; exact (va_up_ne _ _ (by decide)).trans t29
                        refine lv_iinc (v := nI (i19 + 1)) (lv' := [(3, .int (nI (i19 + 1))), (1, .int 1), (2, .int (nI j17)), (0, .ref h)]) hx hb dX9_addWanted_138 hl (k := 0) rfl (nI_add i19 1) (by decide) rfl (fun ls hl => ?_)
                        refine lv_goto (tgt := 105) hx hb dX9_addWanted_141 (by decide) ?_
                        exact ih21 (i19 + 1)  F48 V24 _ _ _ (by omega) (by omega) (hI.mono (by omega)) hU hV t29 hP hD hS (lv_sub hl [0, 1, 2, 3] rfl)
                      · refine lv_iload_n hx hb dX9_addWanted_127 rfl (lv_at hl 0 rfl) ?_
                        refine lv_iload_n hx hb dX9_addWanted_128 rfl (lv_at hl 2 rfl) ?_
                        refine lv_icmp_ne (tgt := 136) hx hb dX9_addWanted_129 (by decide) (fun c49 => ?_) (fun c49 => ?_)
                        · replace c49 : ¬ (i19 = j17) := fun q9 => c49 ((nI_eq (a := i19) (b := j17) (by omega) (by omega)).mpr q9)
                          refine lv_iconst (v := 0) hx hb dX9_addWanted_136 (by decide) ?_
                          refine va_zast (n := 40) (f := F23 28) hx hb hK hP hD hS 24 23 rfl rfl (vp_in_nI (n := i19) (by omega) (by decide)) dX9_addWanted_137 (fun H locs hP hD hS => ?_)
                          rw [mW_set_28] at hP hD
                          obtain ⟨F50, eF50⟩ : ∃ f9 : Nat → Nat → Int32, f9 = va_up F23 28 (upd (F23 28) (nI i19).toNatClampNeg (vp_nar .boolean 0)) := ⟨_, rfl⟩
                          rw [← eF50] at hP hD
                          replace hI : StM n (b) F V F50 V24 := ⟨by rw [eF50]; exact hI.1.setF (by decide), trivial⟩
                          replace hU : ∀ j : Nat, j ∉ ([27, 28, 29, 31, 32] : List Nat) → F50 j = F j := by rw [eF50]; exact mw_up (by decide) hU
                          replace t29 : F50 29 = F18 29 := by rw [eF50]; exact (va_up_ne _ _ (by decide)).trans t29
                          refine lv_iinc (v := nI (i19 + 1)) (lv' := [(3, .int (nI (i19 + 1))), (1, .int 1), (2, .int (nI j17)), (0, .ref h)]) hx hb dX9_addWanted_138 hl (k := 0) rfl (nI_add i19 1) (by decide) rfl (fun ls hl => ?_)
                          refine lv_goto (tgt := 105) hx hb dX9_addWanted_141 (by decide) ?_
                          exact ih21 (i19 + 1)  F50 V24 _ _ _ (by omega) (by omega) (hI.mono (by omega)) hU hV t29 hP hD hS (lv_sub hl [0, 1, 2, 3] rfl)
                        · replace c49 : i19 = j17 := (nI_eq (a := i19) (b := j17) (by omega) (by omega)).mp c49
                          refine lv_iconst (v := 1) hx hb dX9_addWanted_132 (by decide) ?_
                          refine lv_goto (tgt := 137) hx hb dX9_addWanted_133 (by decide) ?_
                          refine va_zast (n := 40) (f := F23 28) hx hb hK hP hD hS 24 23 rfl rfl (vp_in_nI (n := i19) (by omega) (by decide)) dX9_addWanted_137 (fun H locs hP hD hS => ?_)
                          rw [mW_set_28] at hP hD
                          obtain ⟨F51, eF51⟩ : ∃ f9 : Nat → Nat → Int32, f9 = va_up F23 28 (upd (F23 28) (nI i19).toNatClampNeg (vp_nar .boolean 1)) := ⟨_, rfl⟩
                          rw [← eF51] at hP hD
                          replace hI : StM n (b) F V F51 V24 := ⟨by rw [eF51]; exact hI.1.setF (by decide), trivial⟩
                          replace hU : ∀ j : Nat, j ∉ ([27, 28, 29, 31, 32] : List Nat) → F51 j = F j := by rw [eF51]; exact mw_up (by decide) hU
                          replace t29 : F51 29 = F18 29 := by rw [eF51]; exact (va_up_ne _ _ (by decide)).trans t29
                          refine lv_iinc (v := nI (i19 + 1)) (lv' := [(3, .int (nI (i19 + 1))), (1, .int 1), (2, .int (nI j17)), (0, .ref h)]) hx hb dX9_addWanted_138 hl (k := 0) rfl (nI_add i19 1) (by decide) rfl (fun ls hl => ?_)
                          refine lv_goto (tgt := 105) hx hb dX9_addWanted_141 (by decide) ?_
                          exact ih21 (i19 + 1)  F51 V24 _ _ _ (by omega) (by omega) (hI.mono (by omega)) hU hV t29 hP hD hS (lv_sub hl [0, 1, 2, 3] rfl)
                exact lp22 (n + 1) 0  F18 V6 _ _ _ (by omega) (by omega) (hI.mono (by omega)) hU hV t29 hP hD hS hl
            · obtain ⟨q52, rfl⟩ : ∃ q9 : Nat, i10 = q9 + 1 := by
                cases i10 with
                | zero => exact absurd (show nI 0 + (-1) < 0 by decide) c15
                | succ q9 => exact ⟨q9, rfl⟩
              rw [pk_m1] at hl
              refine lv_iconst (v := 0) hx hb dX9_addWanted_21 (by decide) ?_
              refine lv_istore (lv' := [(4, .int 0), (3, .int (nI q52)), (2, .int y14), (1, .int 0), (0, .ref h)]) hx hb dX9_addWanted_22 hl (by decide) rfl (fun ls hl => ?_)
              have lp56 : ∀ (fu54 i53 : Nat) (y57 : Int32) (H : Heap) (locs : List Loc) (ls : Array Slot), n < i53 + fu54 → i53 ≤ n → (y57 = -1 ∨ ∃ j9 : Nat, j9 < n ∧ y57 = nI j9 ∧ F5 29 (nI j9).toNatClampNeg = 0) → va_P (dC, dI) vwCl (mW h a k F5 V6) H → va_D A (mW h a k F5 V6) → va_S A s.heap H locs → lv_has ls 5 [(4, .int (nI i53)), (3, .int (nI q52)), (2, .int y57), (1, .int 0), (0, .ref h)] → W p l e (headSpec wq_m_addWanted rm_m_addWanted).room s m ([.ref h] : List Value).toArray below meth c H locs 0 0 Q0 (F0 m 24 ls []) := by
                intro fu54
                induction fu54 with
                | zero =>
                  intro i53 y57 H locs ls hf hi
                  exact absurd hf (by omega)
                | succ fu54 ih55 =>
                  intro i53 y57 H locs ls hfi53 hii53 hwai53 hP hD hS hl
                  refine lv_iload hx hb dX9_addWanted_24 (lv_at hl 0 rfl) ?_
                  refine lv_aload_n hx hb dX9_addWanted_26 rfl (lv_at hl 4 rfl) ?_
                  refine va_get (D := (dC, dI)) (ci := 10) (v := .int (V6 21)) (C := RX9) (T := TX9) (N := 46) hx hb hts in_m_addWanted_X9 hown hK hP 0 rfl rfl 21 (by decide) (hts (.fieldLink RX9 126 "ServiceTreeModel" "services" "I") (by decide +kernel)) (fun _ h9 => h9) rfl dX9_addWanted_27 ?_
                  refine p1_topr (v := .int (nI n)) (congrArg Value.int hI.1.2.1) ?_
                  refine lv_icmp_ge (tgt := 84) hx hb dX9_addWanted_30 (by decide) (fun c58 => ?_) (fun c58 => ?_)
                  · replace c58 : n ≤ i53 := (nI_leI (a := n) (b := i53) (by omega) (by omega)).mp c58
                    refine lv_iinc (v := nI q52 + (-1)) (lv' := [(3, .int (nI q52 + (-1))), (4, .int (nI i53)), (2, .int y57), (1, .int 0), (0, .ref h)]) hx hb dX9_addWanted_84 hl (k := 1) rfl rfl (by decide) rfl (fun ls hl => ?_)
                    refine lv_goto (tgt := 17) hx hb dX9_addWanted_87 (by decide) ?_
                    exact ih12 q52 y57 _ _ _ (by omega) (by omega) (by assumption) hP hD hS (lv_sub hl [0, 2, 3, 4] rfl)
                  · replace c58 : ¬ (n ≤ i53) := fun q9 => c58 ((nI_leI (a := n) (b := i53) (by omega) (by omega)).mpr q9)
                    refine lv_aload_n hx hb dX9_addWanted_33 rfl (lv_at hl 4 rfl) ?_
                    refine va_get (D := (dC, dI)) (ci := 10) (v := .ref (a 27)) (C := RX9) (T := TX9) (N := 46) hx hb hts in_m_addWanted_X9 hown hK hP 0 rfl rfl 27 (by decide) (hts (.fieldLink RX9 77 "ServiceTreeModel" "member" "[Z") (by decide +kernel)) (fun _ h9 => h9) rfl dX9_addWanted_34 ?_
                    refine lv_iload hx hb dX9_addWanted_37 (lv_at hl 0 rfl) ?_
                    refine va_zald (n := 40) (f := F5 27) hx hb hK hP 23 22 rfl rfl (vp_in_nI (n := i53) (by omega) (by decide)) dX9_addWanted_39 ?_
                    refine lv_topi (fun x59 ex59 => ?_)
                    refine lv_if_eq (tgt := 76) hx hb dX9_addWanted_40 (by decide) (fun c60 => ?_) (fun c60 => ?_)
                    · refine lv_iload_n hx hb dX9_addWanted_76 rfl (lv_at hl 2 rfl) ?_
                      refine lv_istore_n (lv' := [(2, .int y57), (4, .int (nI i53)), (3, .int (nI q52)), (1, .int 0), (0, .ref h)]) hx hb dX9_addWanted_77 rfl hl (by decide) rfl (fun ls hl => ?_)
                      refine lv_iinc (v := nI (i53 + 1)) (lv' := [(4, .int (nI (i53 + 1))), (2, .int y57), (3, .int (nI q52)), (1, .int 0), (0, .ref h)]) hx hb dX9_addWanted_78 hl (k := 1) rfl (nI_add i53 1) (by decide) rfl (fun ls hl => ?_)
                      refine lv_goto (tgt := 24) hx hb dX9_addWanted_81 (by decide) ?_
                      exact ih55 (i53 + 1) y57 _ _ _ (by omega) (by omega) (by assumption) hP hD hS (lv_sub hl [0, 2, 1, 3, 4] rfl)
                    · refine lv_aload_n hx hb dX9_addWanted_43 rfl (lv_at hl 4 rfl) ?_
                      refine lv_iconst (v := 1) hx hb dX9_addWanted_44 (by decide) ?_
                      refine lv_iload hx hb dX9_addWanted_45 (lv_at hl 0 rfl) ?_
                      refine lv_iload_n hx hb dX9_addWanted_47 rfl (lv_at hl 1 rfl) ?_
                      have hFc := mw_free hD hS hA
                      refine va_calli (va_runV (As := [.int 1, .int (nI i53), .int (nI q52)]) (rest := []) ⟨hx, hb, hml, hown, hts⟩ (c_m_has l dC dI h a k F5 V6 n (b) 1 i53 q52 H.size hI.1 (by omega) (by omega) (by omega) (by omega)) (cwV 3 hts wc_m_addWanted_m_has_150 rfl rfl rfl (by decide +kernel) ⟨Nat.le_of_ble_eq_true rfl, Nat.le_of_ble_eq_true rfl⟩) ⟨fun a9 U g mk q => by obtain ⟨q0, q1, qP, qK, qD⟩ := q; exact ⟨q0, q1, qP, va_K.moved (u := U) (U := U.calling g mk a9) (Vm.Alike.refl U.vm) qK, qD⟩, va_recv hK hP (ci := 10) (q0 := 0) rfl rfl, fun U hU hW => ⟨rfl, by rw [hU], by rw [hU]; exact hP, va_K.moved hW.alike hK, hD.weaken (fun _ _ _ _ => trivial)⟩⟩ rfl rfl hl.1 rfl (lv_room (Nat.le_of_ble_eq_true rfl)) dX9_addWanted_48 ⟨Nat.le_of_ble_eq_true rfl, Nat.le_of_ble_eq_true rfl⟩) hS (fun q _ h => hFc q h) hFc (fun r61 u t H1 locs ht hvm hw hB hz1 hk1 hS => ?_)
                      obtain ⟨F62, V63⟩ := u
                      replace hP := hB.1
                      rw [ht] at hP
                      replace hD : va_D A (mW h a k F62 V63) := hB.2.weaken (fun _ q _ h9 => hFc q.1 h9)
                      clear hB
                      generalize H1 = H at hP hS ⊢
                      replace hP : va_P (dC, dI) vwCl (mW h a k F62 V63) H := hP
                      obtain ⟨hwF, hwV, hw⟩ : F62 = F5 ∧ V63 = V6 ∧ _ := hw
                      rw [hwF, hwV] at hP hD
                      have br61 := hw
                      refine lv_if_eq (tgt := 76) hx hb dX9_addWanted_51 (by decide) (fun c64 => ?_) (fun c64 => ?_)
                      · refine lv_iload_n hx hb dX9_addWanted_76 rfl (lv_at hl 2 rfl) ?_
                        refine lv_istore_n (lv' := [(2, .int y57), (4, .int (nI i53)), (3, .int (nI q52)), (1, .int 0), (0, .ref h)]) hx hb dX9_addWanted_77 rfl hl (by decide) rfl (fun ls hl => ?_)
                        refine lv_iinc (v := nI (i53 + 1)) (lv' := [(4, .int (nI (i53 + 1))), (2, .int y57), (3, .int (nI q52)), (1, .int 0), (0, .ref h)]) hx hb dX9_addWanted_78 hl (k := 1) rfl (nI_add i53 1) (by decide) rfl (fun ls hl => ?_)
                        refine lv_goto (tgt := 24) hx hb dX9_addWanted_81 (by decide) ?_
                        exact ih55 (i53 + 1) y57 _ _ _ (by omega) (by omega) (by assumption) hP hD hS (lv_sub hl [0, 2, 1, 3, 4] rfl)
                      · refine lv_aload_n hx hb dX9_addWanted_54 rfl (lv_at hl 4 rfl) ?_
                        refine va_get (D := (dC, dI)) (ci := 10) (v := .ref (a 27)) (C := RX9) (T := TX9) (N := 46) hx hb hts in_m_addWanted_X9 hown hK hP 0 rfl rfl 27 (by decide) (hts (.fieldLink RX9 77 "ServiceTreeModel" "member" "[Z") (by decide +kernel)) (fun _ h9 => h9) rfl dX9_addWanted_55 ?_
                        refine lv_iload_n hx hb dX9_addWanted_58 rfl (lv_at hl 1 rfl) ?_
                        refine va_zald (n := 40) (f := F5 27) hx hb hK hP 23 22 rfl rfl (vp_in_nI (n := q52) (by omega) (by decide)) dX9_addWanted_59 ?_
                        refine lv_topi (fun x65 ex65 => ?_)
                        refine lv_if_ne (tgt := 76) hx hb dX9_addWanted_60 (by decide) (fun c66 => ?_) (fun c66 => ?_)
                        · refine lv_iload_n hx hb dX9_addWanted_76 rfl (lv_at hl 2 rfl) ?_
                          refine lv_istore_n (lv' := [(2, .int y57), (4, .int (nI i53)), (3, .int (nI q52)), (1, .int 0), (0, .ref h)]) hx hb dX9_addWanted_77 rfl hl (by decide) rfl (fun ls hl => ?_)
                          refine lv_iinc (v := nI (i53 + 1)) (lv' := [(4, .int (nI (i53 + 1))), (2, .int y57), (3, .int (nI q52)), (1, .int 0), (0, .ref h)]) hx hb dX9_addWanted_78 hl (k := 1) rfl (nI_add i53 1) (by decide) rfl (fun ls hl => ?_)
                          refine lv_goto (tgt := 24) hx hb dX9_addWanted_81 (by decide) ?_
                          exact ih55 (i53 + 1) y57 _ _ _ (by omega) (by omega) (by assumption) hP hD hS (lv_sub hl [0, 2, 1, 3, 4] rfl)
                        · refine lv_aload_n hx hb dX9_addWanted_63 rfl (lv_at hl 4 rfl) ?_
                          refine va_get (D := (dC, dI)) (ci := 10) (v := .ref (a 29)) (C := RX9) (T := TX9) (N := 46) hx hb hts in_m_addWanted_X9 hown hK hP 0 rfl rfl 29 (by decide) (hts (.fieldLink RX9 83 "ServiceTreeModel" "looked" "[Z") (by decide +kernel)) (fun _ h9 => h9) rfl dX9_addWanted_64 ?_
                          refine lv_iload_n hx hb dX9_addWanted_67 rfl (lv_at hl 1 rfl) ?_
                          refine va_zald (n := 40) (f := F5 29) hx hb hK hP 25 24 rfl rfl (vp_in_nI (n := q52) (by omega) (by decide)) dX9_addWanted_68 ?_
                          refine lv_topi (fun x67 ex67 => ?_)
                          refine lv_if_ne (tgt := 76) hx hb dX9_addWanted_69 (by decide) (fun c68 => ?_) (fun c68 => ?_)
                          · refine lv_iload_n hx hb dX9_addWanted_76 rfl (lv_at hl 2 rfl) ?_
                            refine lv_istore_n (lv' := [(2, .int y57), (4, .int (nI i53)), (3, .int (nI q52)), (1, .int 0), (0, .ref h)]) hx hb dX9_addWanted_77 rfl hl (by decide) rfl (fun ls hl => ?_)
                            refine lv_iinc (v := nI (i53 + 1)) (lv' := [(4, .int (nI (i53 + 1))), (2, .int y57), (3, .int (nI q52)), (1, .int 0), (0, .ref h)]) hx hb dX9_addWanted_78 hl (k := 1) rfl (nI_add i53 1) (by decide) rfl (fun ls hl => ?_)
                            refine lv_goto (tgt := 24) hx hb dX9_addWanted_81 (by decide) ?_
                            exact ih55 (i53 + 1) y57 _ _ _ (by omega) (by omega) (by assumption) hP hD hS (lv_sub hl [0, 2, 1, 3, 4] rfl)
                          · refine lv_iload_n hx hb dX9_addWanted_72 rfl (lv_at hl 1 rfl) ?_
                            refine lv_goto (tgt := 77) hx hb dX9_addWanted_73 (by decide) ?_
                            refine lv_istore_n (lv' := [(2, .int (nI q52)), (4, .int (nI i53)), (3, .int (nI q52)), (1, .int 0), (0, .ref h)]) hx hb dX9_addWanted_77 rfl hl (by decide) rfl (fun ls hl => ?_)
                            refine lv_iinc (v := nI (i53 + 1)) (lv' := [(4, .int (nI (i53 + 1))), (2, .int (nI q52)), (3, .int (nI q52)), (1, .int 0), (0, .ref h)]) hx hb dX9_addWanted_78 hl (k := 1) rfl (nI_add i53 1) (by decide) rfl (fun ls hl => ?_)
                            refine lv_goto (tgt := 24) hx hb dX9_addWanted_81 (by decide) ?_
                            exact ih55 (i53 + 1) (nI q52) _ _ _ (by omega) (by omega) (Or.inr ⟨q52, by omega, rfl, ex67.symm.trans c68⟩) hP hD hS (lv_sub hl [0, 2, 1, 3, 4] rfl)
              exact lp56 (n + 1) 0 y14 _ _ _ (by omega) (by omega) (by assumption) hP hD hS hl
        exact lp13 (n + 1) n (-1) _ _ _ (by omega) (by omega) (Or.inl rfl) hP hD hS hl
  exact lp4 (41 + 1) 0 1 F V _ _ _ (by omega) (by omega) (hI.mono (by omega)) hU hV (fun _ => (show 0 + zc (F 29) 40 ≤ 40 by have := zc_le (F 29) 40; omega)) hP hD hS hl
def wq_m_look : List Cond := [.code yX9_look cX9_look 7 (some .int), .fieldLink RX9 126 "ServiceTreeModel" "services" "I", .fieldLink RX9 86 "ServiceTreeModel" "newJob" "[I", .fieldLink RX9 197 "ServiceTreeModel" "ring" "I", .fieldLink RX9 77 "ServiceTreeModel" "member" "[Z", .fieldLink RX9 31 "ServiceTreeModel" "state" "[I", .methodLink RX9 143 yX9_jobs, .instanceMethod yX9_jobs, .selects RX9 yX9_jobs yX9_jobs, .initialized RX9, .methodLink RX9 186 yX9_in, .instanceMethod yX9_in, .selects RX9 yX9_in yX9_in, .methodLink RX9 203 yX9_jobRing, .instanceMethod yX9_jobRing, .selects RX9 yX9_jobRing yX9_jobRing, .methodLink RX9 194 yX9_members, .instanceMethod yX9_members, .selects RX9 yX9_members yX9_members, .methodLink RX9 178 yX9_clash, .instanceMethod yX9_clash, .selects RX9 yX9_clash yX9_clash, .methodLink RX9 182 yX9_memberRing, .instanceMethod yX9_memberRing, .selects RX9 yX9_memberRing yX9_memberRing, .methodLink RX9 200 yX9_addWanted, .instanceMethod yX9_addWanted, .selects RX9 yX9_addWanted yX9_addWanted, .methodLink RX9 190 yX9_addNeeding, .instanceMethod yX9_addNeeding, .selects RX9 yX9_addNeeding yX9_addNeeding, .methodLink RX9 171 yX9_isUpOrWaiting, .instanceMethod yX9_isUpOrWaiting, .selects RX9 yX9_isUpOrWaiting yX9_isUpOrWaiting, .methodLink RX9 150 yX9_has, .instanceMethod yX9_has, .selects RX9 yX9_has yX9_has] ++ (wsX90 ++ (wq_m_jobs ++ (wq_m_in ++ (wq_m_jobRing ++ (wq_m_members ++ (wq_m_clash_member ++ (wq_m_memberRing_member ++ (wq_m_addWanted ++ (wq_m_addNeeding ++ (wq_m_isUpOrWaiting ++ (wq_m_has)))))))))))
theorem in_m_look_X9 : ∀ w ∈ wsX90, w ∈ wq_m_look := fun _ h => List.mem_append_right _ (List.mem_append_left _ (h))
set_option maxRecDepth 20000 in
theorem wi_m_look : ∀ w ∈ wq_m_look, w ∈ lw_tbl := List.forall_mem_append.mpr ⟨(by decide +kernel), List.forall_mem_append.mpr ⟨inKX9, List.forall_mem_append.mpr ⟨wi_m_jobs, List.forall_mem_append.mpr ⟨wi_m_in, List.forall_mem_append.mpr ⟨wi_m_jobRing, List.forall_mem_append.mpr ⟨wi_m_members, List.forall_mem_append.mpr ⟨wi_m_clash_member, List.forall_mem_append.mpr ⟨wi_m_memberRing_member, List.forall_mem_append.mpr ⟨wi_m_addWanted, List.forall_mem_append.mpr ⟨wi_m_addNeeding, List.forall_mem_append.mpr ⟨wi_m_isUpOrWaiting, wi_m_has⟩⟩⟩⟩⟩⟩⟩⟩⟩⟩⟩
set_option maxRecDepth 20000 in
theorem wg_m_look : GoodIn wq_m_look wq_m_look := goodIn_sub (fun _ h => h) (by decide +kernel)
set_option maxRecDepth 20000 in
theorem wc_m_look_m_jobs_143 : GoodIn wq_m_look (wsV RX9 143 RX9 yX9_jobs wq_m_jobs) := goodIn_app (goodIn_of _ (by decide +kernel)) (fun w h => ⟨List.mem_append_right _ (List.mem_append_right _ (List.mem_append_left _ (h))), (wg_m_jobs w h).2⟩)
set_option maxRecDepth 20000 in
theorem wc_m_look_m_in_186 : GoodIn wq_m_look (wsV RX9 186 RX9 yX9_in wq_m_in) := goodIn_app (goodIn_of _ (by decide +kernel)) (fun w h => ⟨List.mem_append_right _ (List.mem_append_right _ (List.mem_append_right _ (List.mem_append_left _ (h)))), (wg_m_in w h).2⟩)
set_option maxRecDepth 20000 in
theorem wc_m_look_m_jobRing_203 : GoodIn wq_m_look (wsV RX9 203 RX9 yX9_jobRing wq_m_jobRing) := goodIn_app (goodIn_of _ (by decide +kernel)) (fun w h => ⟨List.mem_append_right _ (List.mem_append_right _ (List.mem_append_right _ (List.mem_append_right _ (List.mem_append_left _ (h))))), (wg_m_jobRing w h).2⟩)
set_option maxRecDepth 20000 in
theorem wc_m_look_m_members_194 : GoodIn wq_m_look (wsV RX9 194 RX9 yX9_members wq_m_members) := goodIn_app (goodIn_of _ (by decide +kernel)) (fun w h => ⟨List.mem_append_right _ (List.mem_append_right _ (List.mem_append_right _ (List.mem_append_right _ (List.mem_append_right _ (List.mem_append_left _ (h)))))), (wg_m_members w h).2⟩)
set_option maxRecDepth 20000 in
theorem wc_m_look_m_clash_member_178 : GoodIn wq_m_look (wsV RX9 178 RX9 yX9_clash wq_m_clash_member) := goodIn_app (goodIn_of _ (by decide +kernel)) (fun w h => ⟨List.mem_append_right _ (List.mem_append_right _ (List.mem_append_right _ (List.mem_append_right _ (List.mem_append_right _ (List.mem_append_right _ (List.mem_append_left _ (h))))))), (wg_m_clash_member w h).2⟩)
set_option maxRecDepth 20000 in
theorem wc_m_look_m_memberRing_member_182 : GoodIn wq_m_look (wsV RX9 182 RX9 yX9_memberRing wq_m_memberRing_member) := goodIn_app (goodIn_of _ (by decide +kernel)) (fun w h => ⟨List.mem_append_right _ (List.mem_append_right _ (List.mem_append_right _ (List.mem_append_right _ (List.mem_append_right _ (List.mem_append_right _ (List.mem_append_right _ (List.mem_append_left _ (h)))))))), (wg_m_memberRing_member w h).2⟩)
set_option maxRecDepth 20000 in
theorem wc_m_look_m_addWanted_200 : GoodIn wq_m_look (wsV RX9 200 RX9 yX9_addWanted wq_m_addWanted) := goodIn_app (goodIn_of _ (by decide +kernel)) (fun w h => ⟨List.mem_append_right _ (List.mem_append_right _ (List.mem_append_right _ (List.mem_append_right _ (List.mem_append_right _ (List.mem_append_right _ (List.mem_append_right _ (List.mem_append_right _ (List.mem_append_left _ (h))))))))), (wg_m_addWanted w h).2⟩)
set_option maxRecDepth 20000 in
theorem wc_m_look_m_addNeeding_190 : GoodIn wq_m_look (wsV RX9 190 RX9 yX9_addNeeding wq_m_addNeeding) := goodIn_app (goodIn_of _ (by decide +kernel)) (fun w h => ⟨List.mem_append_right _ (List.mem_append_right _ (List.mem_append_right _ (List.mem_append_right _ (List.mem_append_right _ (List.mem_append_right _ (List.mem_append_right _ (List.mem_append_right _ (List.mem_append_right _ (List.mem_append_left _ (h)))))))))), (wg_m_addNeeding w h).2⟩)
set_option maxRecDepth 20000 in
theorem wc_m_look_m_isUpOrWaiting_171 : GoodIn wq_m_look (wsV RX9 171 RX9 yX9_isUpOrWaiting wq_m_isUpOrWaiting) := goodIn_app (goodIn_of _ (by decide +kernel)) (fun w h => ⟨List.mem_append_right _ (List.mem_append_right _ (List.mem_append_right _ (List.mem_append_right _ (List.mem_append_right _ (List.mem_append_right _ (List.mem_append_right _ (List.mem_append_right _ (List.mem_append_right _ (List.mem_append_right _ (List.mem_append_left _ (h))))))))))), (wg_m_isUpOrWaiting w h).2⟩)
set_option maxRecDepth 20000 in
theorem wc_m_look_m_has_150 : GoodIn wq_m_look (wsV RX9 150 RX9 yX9_has wq_m_has) := goodIn_app (goodIn_of _ (by decide +kernel)) (fun w h => ⟨List.mem_append_right _ (List.mem_append_right _ (List.mem_append_right _ (List.mem_append_right _ (List.mem_append_right _ (List.mem_append_right _ (List.mem_append_right _ (List.mem_append_right _ (List.mem_append_right _ (List.mem_append_right _ (List.mem_append_right _ (h))))))))))), (wg_m_has w h).2⟩)
def rm_m_look : Room := { frames := 3, cells := 0, slots := 0, locals := 72 }
set_option maxHeartbeats 4000000 in
set_option maxRecDepth 100000 in
theorem c_m_look (l : Launch) (dC : Nat → ClassId) (dI : Nat → Nat → Nat) (h : Nat) (a : Nat → Nat) (k : Nat → ClassId) (F : Nat → Nat → Int32) (V : Nat → Int32) (n b : Nat) (p0 : Int32) (xv : Nat) (sz : Nat) (hI0 : InvM n b F V) (hb0 : b + 0 < 2147483648) (hp0 : xv < n) : Met l yX9_look wq_m_look rm_m_look (va_Pc [.ref h, .int p0, .int (nI xv)] (fun U => U.heap.size = sz ∧ va_P (dC, dI) vwCl (mW h a k F V) U.heap ∧ va_K (dC, dI) vwCl (mT k) U ∧ va_D (fun _ => True) (mW h a k F V))) (va_Qi (fun (r : Int32) (u : (Nat → Nat → Int32) × (Nat → Int32)) => StM n (b + 0) F V u.1 u.2 ∧ (∀ j : Nat, j ∉ ([27, 28, 29, 30, 31, 32] : List Nat) → u.1 j = F j) ∧ (∀ j : Nat, j ∉ ([33] : List Nat) → u.2 j = V j) ∧ (True)) (fun (u : (Nat → Nat → Int32) × (Nat → Int32)) (t : State) => va_P (dC, dI) vwCl (mW h a k u.1 u.2) t.heap ∧ va_D (va_A (mW h a k F V) sz) (mW h a k u.1 u.2)) (va_A (mW h a k F V) sz)) 0 0 (va_A (mW h a k F V) sz) := by
  have hn : n ≤ 40 := hI0.1
  have hI : StM n b F V F V := StM.rf hI0
  have hU : ∀ j : Nat, j ∉ ([27, 28, 29, 30, 31, 32] : List Nat) → F j = F j := fun _ _ => rfl
  have hV : ∀ j : Nat, j ∉ ([33] : List Nat) → V j = V j := fun _ _ => rfl
  refine Met.ofW (cc := cX9_look) (maxL := 7) (ret := (some .int)) (by decide) rfl ?_
  intro p e s m args below meth c s₁ B hml hv
  obtain ⟨rfl, hsz, hP, hK, hD0⟩ := hv
  have hx := B.exec
  have hb := B.bytes
  have hr := B.returns
  have hts := atoms_spec (ws := wq_m_look) B.pre
  have hown : s.vm.findClass RX9 = some m.cls := findClass_of_methodNamed B.named
  have hlocks := B.notSynchronized
  subst hsz
  have hD := hD0.self (sz := s.heap.size)
  generalize hAe : va_A (mW h a k F V) s.heap.size = A at hD ⊢
  have hA : ∀ q : Nat, s.heap.size ≤ q → A q := fun q h => by rw [← hAe]; exact Or.inr h
  have hS : va_S A s.heap s.heap [] := va_S.rf
  have hl := lv_entry ([.ref h, .int p0, .int (nI xv)]) (n := 7) (Nat.le_of_ble_eq_true rfl)
  rw [lg_entry_eq]
  generalize (lg_sl ([.ref h, .int p0, .int (nI xv)]) ++ List.replicate (7 - (lg_sl ([.ref h, .int p0, .int (nI xv)])).length) Slot.unset).toArray = ls at hl ⊢
  have hl : lv_has ls 7 [(0, .ref h), (1, .int p0), (2, .int (nI xv))] := hl
  refine mw_Q (fun Q0 hQ => ?_)
  refine lv_aload_n hx hb dX9_look_0 rfl (lv_at hl 0 rfl) ?_
  have hFc := mw_free hD hS hA
  refine va_calli (va_runV (As := []) (rest := []) ⟨hx, hb, hml, hown, hts⟩ (c_m_jobs l dC dI h a k F V n (b)  s.heap.size hI.1 (by omega) ) (cwV 0 hts wc_m_look_m_jobs_143 rfl rfl rfl (by decide +kernel) ⟨Nat.le_of_ble_eq_true rfl, Nat.le_of_ble_eq_true rfl⟩) ⟨fun a9 U g mk q => by obtain ⟨q0, q1, qP, qK, qD⟩ := q; exact ⟨q0, q1, qP, va_K.moved (u := U) (U := U.calling g mk a9) (Vm.Alike.refl U.vm) qK, qD⟩, va_recv hK hP (ci := 10) (q0 := 0) rfl rfl, fun U hU hW => ⟨rfl, by rw [hU], by rw [hU]; exact hP, va_K.moved hW.alike hK, hD.weaken (fun _ _ _ _ => trivial)⟩⟩ rfl rfl hl.1 rfl (lv_room (Nat.le_of_ble_eq_true rfl)) dX9_look_1 ⟨Nat.le_of_ble_eq_true rfl, Nat.le_of_ble_eq_true rfl⟩) hS (fun q _ h => hFc q h) hFc (fun r1 u t H1 locs ht hvm hw hB hz1 hk1 hS => ?_)
  obtain ⟨F2, V3⟩ := u
  replace hP := hB.1
  rw [ht] at hP
  replace hD : va_D A (mW h a k F2 V3) := hB.2.weaken (fun _ q _ h9 => hFc q.1 h9)
  clear hB
  generalize H1 = H at hP hS ⊢
  replace hP : va_P (dC, dI) vwCl (mW h a k F2 V3) H := hP
  obtain ⟨hwF, hwV, hw⟩ : F2 = F ∧ V3 = V ∧ _ := hw
  rw [hwF, hwV] at hP hD
  refine lv_if_gt (tgt := 21) hx hb dX9_look_4 (by decide) (fun c4 => ?_) (fun c4 => ?_)
  · refine lv_bipush (v := (-3)) hx hb dX9_look_21 (by decide) ?_
    rw [hQ]
    exact W.iret (v := (-3)) hx hb hr (fun t ht hW => ⟨⟨(-3), (F, V), rfl, ⟨hI.mono (by omega), hU, hV, trivial⟩, by rw [ht]; exact hP, hD⟩, hS.F ht⟩) hS.2.2 dX9_look_23
  · refine lv_aload_n hx hb dX9_look_7 rfl (lv_at hl 0 rfl) ?_
    refine lv_iconst (v := 1) hx hb dX9_look_8 (by decide) ?_
    have hFc := mw_free hD hS hA
    refine va_calli (va_runV (As := [.int 1]) (rest := []) ⟨hx, hb, hml, hown, hts⟩ (c_m_in l dC dI h a k F V n (b) 1 H.size hI.1 (by omega) ) (cwV 1 hts wc_m_look_m_in_186 rfl rfl rfl (by decide +kernel) ⟨Nat.le_of_ble_eq_true rfl, Nat.le_of_ble_eq_true rfl⟩) ⟨fun a9 U g mk q => by obtain ⟨q0, q1, qP, qK, qD⟩ := q; exact ⟨q0, q1, qP, va_K.moved (u := U) (U := U.calling g mk a9) (Vm.Alike.refl U.vm) qK, qD⟩, va_recv hK hP (ci := 10) (q0 := 0) rfl rfl, fun U hU hW => ⟨rfl, by rw [hU], by rw [hU]; exact hP, va_K.moved hW.alike hK, hD.weaken (fun _ _ _ _ => trivial)⟩⟩ rfl rfl hl.1 rfl (lv_room (Nat.le_of_ble_eq_true rfl)) dX9_look_9 ⟨Nat.le_of_ble_eq_true rfl, Nat.le_of_ble_eq_true rfl⟩) hS (fun q _ h => hFc q h) hFc (fun r5 u t H1 locs ht hvm hw hB hz1 hk1 hS => ?_)
    obtain ⟨F6, V7⟩ := u
    replace hP := hB.1
    rw [ht] at hP
    replace hD : va_D A (mW h a k F6 V7) := hB.2.weaken (fun _ q _ h9 => hFc q.1 h9)
    clear hB
    generalize H1 = H at hP hS ⊢
    replace hP : va_P (dC, dI) vwCl (mW h a k F6 V7) H := hP
    obtain ⟨hwF, hwV, hw⟩ : F6 = F ∧ V7 = V ∧ _ := hw
    rw [hwF, hwV] at hP hD
    refine lv_aload_n hx hb dX9_look_12 rfl (lv_at hl 0 rfl) ?_
    refine lv_iconst (v := 3) hx hb dX9_look_13 (by decide) ?_
    have hFc := mw_free hD hS hA
    refine va_calli (va_runV (As := [.int 3]) (rest := [.int r5]) ⟨hx, hb, hml, hown, hts⟩ (c_m_in l dC dI h a k F V n (b) 3 H.size hI.1 (by omega) ) (cwV 1 hts wc_m_look_m_in_186 rfl rfl rfl (by decide +kernel) ⟨Nat.le_of_ble_eq_true rfl, Nat.le_of_ble_eq_true rfl⟩) ⟨fun a9 U g mk q => by obtain ⟨q0, q1, qP, qK, qD⟩ := q; exact ⟨q0, q1, qP, va_K.moved (u := U) (U := U.calling g mk a9) (Vm.Alike.refl U.vm) qK, qD⟩, va_recv hK hP (ci := 10) (q0 := 0) rfl rfl, fun U hU hW => ⟨rfl, by rw [hU], by rw [hU]; exact hP, va_K.moved hW.alike hK, hD.weaken (fun _ _ _ _ => trivial)⟩⟩ rfl rfl hl.1 rfl (lv_room (Nat.le_of_ble_eq_true rfl)) dX9_look_14 ⟨Nat.le_of_ble_eq_true rfl, Nat.le_of_ble_eq_true rfl⟩) hS (fun q _ h => hFc q h) hFc (fun r8 u t H1 locs ht hvm hw hB hz1 hk1 hS => ?_)
    obtain ⟨F9, V10⟩ := u
    replace hP := hB.1
    rw [ht] at hP
    replace hD : va_D A (mW h a k F9 V10) := hB.2.weaken (fun _ q _ h9 => hFc q.1 h9)
    clear hB
    generalize H1 = H at hP hS ⊢
    replace hP : va_P (dC, dI) vwCl (mW h a k F9 V10) H := hP
    obtain ⟨hwF, hwV, hw⟩ : F9 = F ∧ V10 = V ∧ _ := hw
    rw [hwF, hwV] at hP hD
    refine lv_iadd hx hb dX9_look_17 ?_
    refine lv_topi (fun x11 ex11 => ?_)
    refine lv_if_le (tgt := 24) hx hb dX9_look_18 (by decide) (fun c12 => ?_) (fun c12 => ?_)
    · refine lv_iconst (v := 0) hx hb dX9_look_24 (by decide) ?_
      refine lv_istore_n (lv' := [(3, .int 0), (0, .ref h), (1, .int p0), (2, .int (nI xv))]) hx hb dX9_look_25 rfl hl (by decide) rfl (fun ls hl => ?_)
      have lp16 : ∀ (fu14 i13 : Nat)  (F17 : Nat → Nat → Int32) (V18 : Nat → Int32) (H : Heap) (locs : List Loc) (ls : Array Slot), n < i13 + fu14 → i13 ≤ n → StM n (b) F V F17 V18 → (∀ j : Nat, j ∉ ([27, 28, 29, 30, 31, 32] : List Nat) → F17 j = F j) → (∀ j : Nat, j ∉ ([33] : List Nat) → V18 j = V j) → va_P (dC, dI) vwCl (mW h a k F17 V18) H → va_D A (mW h a k F17 V18) → va_S A s.heap H locs → lv_has ls 7 [(3, .int (nI i13)), (0, .ref h), (1, .int p0), (2, .int (nI xv))] → W p l e (headSpec wq_m_look rm_m_look).room s m ([.ref h, .int p0, .int (nI xv)] : List Value).toArray below meth c H locs 0 0 Q0 (F0 m 26 ls []) := by
        intro fu14
        induction fu14 with
        | zero =>
          intro i13  F17 V18 H locs ls hf hi
          exact absurd hf (by omega)
        | succ fu14 ih15 =>
          intro i13  F17 V18 H locs ls hfi13 hii13 hI hU hV hP hD hS hl
          refine lv_iload_n hx hb dX9_look_26 rfl (lv_at hl 0 rfl) ?_
          refine lv_aload_n hx hb dX9_look_27 rfl (lv_at hl 1 rfl) ?_
          refine va_get (D := (dC, dI)) (ci := 10) (v := .int (V18 21)) (C := RX9) (T := TX9) (N := 46) hx hb hts in_m_look_X9 hown hK hP 0 rfl rfl 21 (by decide) (hts (.fieldLink RX9 126 "ServiceTreeModel" "services" "I") (by decide +kernel)) (fun _ h9 => h9) rfl dX9_look_28 ?_
          refine p1_topr (v := .int (nI n)) (congrArg Value.int hI.1.2.1) ?_
          refine lv_icmp_ge (tgt := 54) hx hb dX9_look_31 (by decide) (fun c19 => ?_) (fun c19 => ?_)
          · replace c19 : n ≤ i13 := (nI_leI (a := n) (b := i13) (by omega) (by omega)).mp c19
            have jn22 : ∀ (F20 : Nat → Nat → Int32) (V21 : Nat → Int32) (H : Heap) (locs : List Loc) (ls : Array Slot), StM n (b) F V F20 V21 → (∀ j : Nat, j ∉ ([27, 28, 29, 30, 31, 32] : List Nat) → F20 j = F j) → (∀ j : Nat, j ∉ ([33] : List Nat) → V21 j = V j) → va_P (dC, dI) vwCl (mW h a k F20 V21) H → va_D A (mW h a k F20 V21) → va_S A s.heap H locs → lv_has ls 7 [(0, .ref h), (1, .int p0), (2, .int (nI xv))] → W p l e (headSpec wq_m_look rm_m_look).room s m ([.ref h, .int p0, .int (nI xv)] : List Value).toArray below meth c H locs 0 0 Q0 (F0 m 352 ls []) := by
              intro F20 V21 H locs ls hI hU hV hP hD hS hl
              refine lv_aload_n hx hb dX9_look_352 rfl (lv_at hl 0 rfl) ?_
              refine lv_aload_n hx hb dX9_look_353 rfl (lv_at hl 0 rfl) ?_
              refine va_get (D := (dC, dI)) (ci := 10) (v := .ref (a 30)) (C := RX9) (T := TX9) (N := 46) hx hb hts in_m_look_X9 hown hK hP 0 rfl rfl 30 (by decide) (hts (.fieldLink RX9 86 "ServiceTreeModel" "newJob" "[I") (by decide +kernel)) (fun _ h9 => h9) rfl dX9_look_354 ?_
              have hFc := mw_free hD hS hA
              refine va_calli (va_runV (As := [.ref (a 30)]) (rest := []) ⟨hx, hb, hml, hown, hts⟩ (c_m_jobRing l dC dI h a k F20 V21 n (b)  H.size hI.1 (by omega) ) (cwV 1 hts wc_m_look_m_jobRing_203 rfl rfl rfl (by decide +kernel) ⟨Nat.le_of_ble_eq_true rfl, Nat.le_of_ble_eq_true rfl⟩) ⟨fun a9 U g mk q => by obtain ⟨q0, q1, qP, qK, qD⟩ := q; exact ⟨q0, q1, qP, va_K.moved (u := U) (U := U.calling g mk a9) (Vm.Alike.refl U.vm) qK, qD⟩, va_recv hK hP (ci := 10) (q0 := 0) rfl rfl, fun U hU hW => ⟨rfl, by rw [hU], by rw [hU]; exact hP, va_K.moved hW.alike hK, hD.weaken (fun _ _ _ _ => trivial)⟩⟩ rfl rfl hl.1 rfl (lv_room (Nat.le_of_ble_eq_true rfl)) dX9_look_357 ⟨Nat.le_of_ble_eq_true rfl, Nat.le_of_ble_eq_true rfl⟩) hS (fun q _ h => hFc q h) hFc (fun r23 u t H1 locs ht hvm hw hB hz1 hk1 hS => ?_)
              obtain ⟨F24, V25⟩ := u
              replace hP := hB.1
              rw [ht] at hP
              replace hD : va_D A (mW h a k F24 V25) := hB.2.weaken (fun _ q _ h9 => hFc q.1 h9)
              clear hB
              generalize H1 = H at hP hS ⊢
              replace hP : va_P (dC, dI) vwCl (mW h a k F24 V25) H := hP
              obtain ⟨hwI, hwU, hwV, hw⟩ := hw
              replace hU : ∀ j : Nat, j ∉ ([27, 28, 29, 30, 31, 32] : List Nat) → F24 j = F j := mw_tr (by decide) hwU hU
              replace hV : ∀ j : Nat, j ∉ ([33] : List Nat) → V25 j = V j := mw_tr (by decide) hwV hV
              replace hI : StM n (b + 0) F V F24 V25 := hI.trans hwI
              replace hI : StM n (b) F V F24 V25 := hI
              refine lv_istore_n (lv' := [(3, .int r23), (0, .ref h), (1, .int p0), (2, .int (nI xv))]) hx hb dX9_look_360 rfl hl (by decide) rfl (fun ls hl => ?_)
              refine lv_iload_n hx hb dX9_look_361 rfl (lv_at hl 0 rfl) ?_
              refine lv_if_le (tgt := 373) hx hb dX9_look_362 (by decide) (fun c26 => ?_) (fun c26 => ?_)
              · refine lv_iconst (v := 0) hx hb dX9_look_373 (by decide) ?_
                rw [hQ]
                exact W.iret (v := 0) hx hb hr (fun t ht hW => ⟨⟨0, (F24, V25), rfl, ⟨hI.mono (by omega), hU, hV, trivial⟩, by rw [ht]; exact hP, hD⟩, hS.F ht⟩) hS.2.2 dX9_look_374
              · refine lv_aload_n hx hb dX9_look_365 rfl (lv_at hl 1 rfl) ?_
                refine lv_iload_n hx hb dX9_look_366 rfl (lv_at hl 0 rfl) ?_
                refine va_put (D := (dC, dI)) (ci := 10) (fs := mF a V25) (v := .int r23) (ty := .int) (C := RX9) (T := TX9) (N := 46) hx hb hts in_m_look_X9 tyX9 tyX9_ok nmX9 hown hK hP hD hS 0 rfl rfl 33 (by decide) (hts (.fieldLink RX9 197 "ServiceTreeModel" "ring" "I") (by decide +kernel)) (fun _ h9 => h9) rfl (by decide +kernel) rfl rfl (Nat.le_of_ble_eq_true rfl) dX9_look_367 (fun H locs hP hD hS => ?_)
                rw [mW_put_33] at hP hD
                obtain ⟨V27, eV27⟩ : ∃ f9 : Nat → Int32, f9 = va_up V25 33 r23 := ⟨_, rfl⟩
                rw [← eV27] at hP hD
                replace hI : StM n (b) F V F24 V27 := ⟨by rw [eV27]; exact hI.1.setV (by decide), trivial⟩
                replace hV : ∀ j : Nat, j ∉ ([33] : List Nat) → V27 j = V j := by rw [eV27]; exact mw_up (by decide) hV
                refine lv_bipush (v := (-5)) hx hb dX9_look_370 (by decide) ?_
                rw [hQ]
                exact W.iret (v := (-5)) hx hb hr (fun t ht hW => ⟨⟨(-5), (F24, V27), rfl, ⟨hI.mono (by omega), hU, hV, trivial⟩, by rw [ht]; exact hP, hD⟩, hS.F ht⟩) hS.2.2 dX9_look_372
            refine lv_iload_n hx hb dX9_look_54 rfl (lv_at hl 2 rfl) ?_
            refine lv_iconst (v := 1) hx hb dX9_look_55 (by decide) ?_
            refine lv_icmp_ne (tgt := 86) hx hb dX9_look_56 (by decide) (fun c28 => ?_) (fun c28 => ?_)
            · refine lv_aload_n hx hb dX9_look_86 rfl (lv_at hl 1 rfl) ?_
              refine lv_iload_n hx hb dX9_look_87 rfl (lv_at hl 3 rfl) ?_
              have hFc := mw_free hD hS hA
              refine va_callv (va_runV (As := [.int (nI xv)]) (rest := []) ⟨hx, hb, hml, hown, hts⟩ (c_m_members l dC dI h a k F17 V18 n (b) xv H.size hI.1 (by omega) (by omega)) (cwV 1 hts wc_m_look_m_members_194 rfl rfl rfl (by decide +kernel) ⟨Nat.le_of_ble_eq_true rfl, Nat.le_of_ble_eq_true rfl⟩) ⟨fun a9 U g mk q => by obtain ⟨q0, q1, qP, qK, qD⟩ := q; exact ⟨q0, q1, qP, va_K.moved (u := U) (U := U.calling g mk a9) (Vm.Alike.refl U.vm) qK, qD⟩, va_recv hK hP (ci := 10) (q0 := 0) rfl rfl, fun U hU hW => ⟨rfl, by rw [hU], by rw [hU]; exact hP, va_K.moved hW.alike hK, hD.weaken (fun _ _ _ _ => trivial)⟩⟩ rfl rfl hl.1 rfl (lv_room (Nat.le_of_ble_eq_true rfl)) dX9_look_88 ⟨Nat.le_of_ble_eq_true rfl, Nat.le_of_ble_eq_true rfl⟩) hS (fun q _ h => hFc q h) hFc (fun u t H1 locs ht hvm hw hB hz1 hk1 hS => ?_)
              obtain ⟨F30, V31⟩ := u
              replace hP := hB.1
              rw [ht] at hP
              replace hD : va_D A (mW h a k F30 V31) := hB.2.weaken (fun _ q _ h9 => hFc q.1 h9)
              clear hB
              generalize H1 = H at hP hS ⊢
              replace hP : va_P (dC, dI) vwCl (mW h a k F30 V31) H := hP
              obtain ⟨hwI, hwU, hwV, hw⟩ := hw
              replace hU : ∀ j : Nat, j ∉ ([27, 28, 29, 30, 31, 32] : List Nat) → F30 j = F j := mw_tr (by decide) hwU hU
              replace hV : ∀ j : Nat, j ∉ ([33] : List Nat) → V31 j = V j := mw_tr (by decide) hwV hV
              replace hI : StM n (b + 0) F V F30 V31 := hI.trans hwI
              replace hI : StM n (b) F V F30 V31 := hI
              refine lv_aload_n hx hb dX9_look_91 rfl (lv_at hl 1 rfl) ?_
              refine lv_aload_n hx hb dX9_look_92 rfl (lv_at hl 1 rfl) ?_
              refine va_get (D := (dC, dI)) (ci := 10) (v := .ref (a 27)) (C := RX9) (T := TX9) (N := 46) hx hb hts in_m_look_X9 hown hK hP 0 rfl rfl 27 (by decide) (hts (.fieldLink RX9 77 "ServiceTreeModel" "member" "[Z") (by decide +kernel)) (fun _ h9 => h9) rfl dX9_look_93 ?_
              have hFc := mw_free hD hS hA
              refine va_calli (va_runV (As := [.ref (a 27)]) (rest := []) ⟨hx, hb, hml, hown, hts⟩ (c_m_clash_member l dC dI h a k F30 V31 n (b)  H.size hI.1 (by omega) ) (cwV 1 hts wc_m_look_m_clash_member_178 rfl rfl rfl (by decide +kernel) ⟨Nat.le_of_ble_eq_true rfl, Nat.le_of_ble_eq_true rfl⟩) ⟨fun a9 U g mk q => by obtain ⟨q0, q1, qP, qK, qD⟩ := q; exact ⟨q0, q1, qP, va_K.moved (u := U) (U := U.calling g mk a9) (Vm.Alike.refl U.vm) qK, qD⟩, va_recv hK hP (ci := 10) (q0 := 0) rfl rfl, fun U hU hW => ⟨rfl, by rw [hU], by rw [hU]; exact hP, va_K.moved hW.alike hK, hD.weaken (fun _ _ _ _ => trivial)⟩⟩ rfl rfl hl.1 rfl (lv_room (Nat.le_of_ble_eq_true rfl)) dX9_look_96 ⟨Nat.le_of_ble_eq_true rfl, Nat.le_of_ble_eq_true rfl⟩) hS (fun q _ h => hFc q h) hFc (fun r32 u t H1 locs ht hvm hw hB hz1 hk1 hS => ?_)
              obtain ⟨F33, V34⟩ := u
              replace hP := hB.1
              rw [ht] at hP
              replace hD : va_D A (mW h a k F33 V34) := hB.2.weaken (fun _ q _ h9 => hFc q.1 h9)
              clear hB
              generalize H1 = H at hP hS ⊢
              replace hP : va_P (dC, dI) vwCl (mW h a k F33 V34) H := hP
              obtain ⟨hwF, hwV, hw⟩ : F33 = F30 ∧ V34 = V31 ∧ _ := hw
              rw [hwF, hwV] at hP hD
              have br32 := hw
              refine lv_if_eq (tgt := 105) hx hb dX9_look_99 (by decide) (fun c35 => ?_) (fun c35 => ?_)
              · refine lv_aload_n hx hb dX9_look_105 rfl (lv_at hl 1 rfl) ?_
                refine lv_aload_n hx hb dX9_look_106 rfl (lv_at hl 1 rfl) ?_
                refine va_get (D := (dC, dI)) (ci := 10) (v := .ref (a 27)) (C := RX9) (T := TX9) (N := 46) hx hb hts in_m_look_X9 hown hK hP 0 rfl rfl 27 (by decide) (hts (.fieldLink RX9 77 "ServiceTreeModel" "member" "[Z") (by decide +kernel)) (fun _ h9 => h9) rfl dX9_look_107 ?_
                have hFc := mw_free hD hS hA
                refine va_calli (va_runV (As := [.ref (a 27)]) (rest := []) ⟨hx, hb, hml, hown, hts⟩ (c_m_memberRing_member l dC dI h a k F30 V31 n (b)  H.size hI.1 (by omega) ) (cwV 1 hts wc_m_look_m_memberRing_member_182 rfl rfl rfl (by decide +kernel) ⟨Nat.le_of_ble_eq_true rfl, Nat.le_of_ble_eq_true rfl⟩) ⟨fun a9 U g mk q => by obtain ⟨q0, q1, qP, qK, qD⟩ := q; exact ⟨q0, q1, qP, va_K.moved (u := U) (U := U.calling g mk a9) (Vm.Alike.refl U.vm) qK, qD⟩, va_recv hK hP (ci := 10) (q0 := 0) rfl rfl, fun U hU hW => ⟨rfl, by rw [hU], by rw [hU]; exact hP, va_K.moved hW.alike hK, hD.weaken (fun _ _ _ _ => trivial)⟩⟩ rfl rfl hl.1 rfl (lv_room (Nat.le_of_ble_eq_true rfl)) dX9_look_110 ⟨Nat.le_of_ble_eq_true rfl, Nat.le_of_ble_eq_true rfl⟩) hS (fun q _ h => hFc q h) hFc (fun r36 u t H1 locs ht hvm hw hB hz1 hk1 hS => ?_)
                obtain ⟨F37, V38⟩ := u
                replace hP := hB.1
                rw [ht] at hP
                replace hD : va_D A (mW h a k F37 V38) := hB.2.weaken (fun _ q _ h9 => hFc q.1 h9)
                clear hB
                generalize H1 = H at hP hS ⊢
                replace hP : va_P (dC, dI) vwCl (mW h a k F37 V38) H := hP
                obtain ⟨hwI, hwU, hwV, hw⟩ := hw
                replace hU : ∀ j : Nat, j ∉ ([27, 28, 29, 30, 31, 32] : List Nat) → F37 j = F j := mw_tr (by decide) hwU hU
                replace hV : ∀ j : Nat, j ∉ ([33] : List Nat) → V38 j = V j := mw_tr (by decide) hwV hV
                replace hI : StM n (b + 0) F V F37 V38 := hI.trans hwI
                replace hI : StM n (b) F V F37 V38 := hI
                refine lv_istore_n (lv' := [(3, .int r36), (0, .ref h), (1, .int p0), (2, .int (nI xv))]) hx hb dX9_look_113 rfl hl (by decide) rfl (fun ls hl => ?_)
                refine lv_iload_n hx hb dX9_look_114 rfl (lv_at hl 0 rfl) ?_
                refine lv_if_le (tgt := 126) hx hb dX9_look_115 (by decide) (fun c39 => ?_) (fun c39 => ?_)
                · refine lv_aload_n hx hb dX9_look_126 rfl (lv_at hl 1 rfl) ?_
                  have hFc := mw_free hD hS hA
                  refine va_callv (va_runV (As := []) (rest := []) ⟨hx, hb, hml, hown, hts⟩ (c_m_addWanted l dC dI h a k F37 V38 n (b)  H.size hI.1 (by omega) ) (cwV 0 hts wc_m_look_m_addWanted_200 rfl rfl rfl (by decide +kernel) ⟨Nat.le_of_ble_eq_true rfl, Nat.le_of_ble_eq_true rfl⟩) ⟨fun a9 U g mk q => by obtain ⟨q0, q1, qP, qK, qD⟩ := q; exact ⟨q0, q1, qP, va_K.moved (u := U) (U := U.calling g mk a9) (Vm.Alike.refl U.vm) qK, qD⟩, va_recv hK hP (ci := 10) (q0 := 0) rfl rfl, fun U hU hW => ⟨rfl, by rw [hU], by rw [hU]; exact hP, va_K.moved hW.alike hK, hD.weaken (fun _ _ _ _ => trivial)⟩⟩ rfl rfl hl.1 rfl (lv_room (Nat.le_of_ble_eq_true rfl)) dX9_look_127 ⟨Nat.le_of_ble_eq_true rfl, Nat.le_of_ble_eq_true rfl⟩) hS (fun q _ h => hFc q h) hFc (fun u t H1 locs ht hvm hw hB hz1 hk1 hS => ?_)
                  obtain ⟨F41, V42⟩ := u
                  replace hP := hB.1
                  rw [ht] at hP
                  replace hD : va_D A (mW h a k F41 V42) := hB.2.weaken (fun _ q _ h9 => hFc q.1 h9)
                  clear hB
                  generalize H1 = H at hP hS ⊢
                  replace hP : va_P (dC, dI) vwCl (mW h a k F41 V42) H := hP
                  obtain ⟨hwI, hwU, hwV, hw⟩ := hw
                  replace hU : ∀ j : Nat, j ∉ ([27, 28, 29, 30, 31, 32] : List Nat) → F41 j = F j := mw_tr (by decide) hwU hU
                  replace hV : ∀ j : Nat, j ∉ ([33] : List Nat) → V42 j = V j := mw_tr (by decide) hwV hV
                  replace hI : StM n (b + 0) F V F41 V42 := hI.trans hwI
                  replace hI : StM n (b) F V F41 V42 := hI
                  refine lv_iconst (v := 0) hx hb dX9_look_130 (by decide) ?_
                  refine lv_istore (lv' := [(4, .int 0), (3, .int r36), (0, .ref h), (1, .int p0), (2, .int (nI xv))]) hx hb dX9_look_131 hl (by decide) rfl (fun ls hl => ?_)
                  have lp46 : ∀ (fu44 i43 : Nat)  (F47 : Nat → Nat → Int32) (V48 : Nat → Int32) (H : Heap) (locs : List Loc) (ls : Array Slot), n < i43 + fu44 → i43 ≤ n → StM n (b) F V F47 V48 → (∀ j : Nat, j ∉ ([27, 28, 29, 30, 31, 32] : List Nat) → F47 j = F j) → (∀ j : Nat, j ∉ ([33] : List Nat) → V48 j = V j) → va_P (dC, dI) vwCl (mW h a k F47 V48) H → va_D A (mW h a k F47 V48) → va_S A s.heap H locs → lv_has ls 7 [(4, .int (nI i43)), (3, .int r36), (0, .ref h), (1, .int p0), (2, .int (nI xv))] → W p l e (headSpec wq_m_look rm_m_look).room s m ([.ref h, .int p0, .int (nI xv)] : List Value).toArray below meth c H locs 0 0 Q0 (F0 m 133 ls []) := by
                    intro fu44
                    induction fu44 with
                    | zero =>
                      intro i43  F47 V48 H locs ls hf hi
                      exact absurd hf (by omega)
                    | succ fu44 ih45 =>
                      intro i43  F47 V48 H locs ls hfi43 hii43 hI hU hV hP hD hS hl
                      refine lv_iload hx hb dX9_look_133 (lv_at hl 0 rfl) ?_
                      refine lv_aload_n hx hb dX9_look_135 rfl (lv_at hl 2 rfl) ?_
                      refine va_get (D := (dC, dI)) (ci := 10) (v := .int (V48 21)) (C := RX9) (T := TX9) (N := 46) hx hb hts in_m_look_X9 hown hK hP 0 rfl rfl 21 (by decide) (hts (.fieldLink RX9 126 "ServiceTreeModel" "services" "I") (by decide +kernel)) (fun _ h9 => h9) rfl dX9_look_136 ?_
                      refine p1_topr (v := .int (nI n)) (congrArg Value.int hI.1.2.1) ?_
                      refine lv_icmp_ge (tgt := 248) hx hb dX9_look_139 (by decide) (fun c49 => ?_) (fun c49 => ?_)
                      · replace c49 : n ≤ i43 := (nI_leI (a := n) (b := i43) (by omega) (by omega)).mp c49
                        refine lv_aload_n hx hb dX9_look_248 rfl (lv_at hl 2 rfl) ?_
                        refine lv_iconst (v := (-1)) hx hb dX9_look_249 (by decide) ?_
                        have hFc := mw_free hD hS hA
                        refine va_callv (va_runV (As := [.int (-1)]) (rest := []) ⟨hx, hb, hml, hown, hts⟩ (c_m_addNeeding l dC dI h a k F47 V48 n (b) (-1) H.size hI.1 (by omega) ) (cwV 1 hts wc_m_look_m_addNeeding_190 rfl rfl rfl (by decide +kernel) ⟨Nat.le_of_ble_eq_true rfl, Nat.le_of_ble_eq_true rfl⟩) ⟨fun a9 U g mk q => by obtain ⟨q0, q1, qP, qK, qD⟩ := q; exact ⟨q0, q1, qP, va_K.moved (u := U) (U := U.calling g mk a9) (Vm.Alike.refl U.vm) qK, qD⟩, va_recv hK hP (ci := 10) (q0 := 0) rfl rfl, fun U hU hW => ⟨rfl, by rw [hU], by rw [hU]; exact hP, va_K.moved hW.alike hK, hD.weaken (fun _ _ _ _ => trivial)⟩⟩ rfl rfl hl.1 rfl (lv_room (Nat.le_of_ble_eq_true rfl)) dX9_look_250 ⟨Nat.le_of_ble_eq_true rfl, Nat.le_of_ble_eq_true rfl⟩) hS (fun q _ h => hFc q h) hFc (fun u t H1 locs ht hvm hw hB hz1 hk1 hS => ?_)
                        obtain ⟨F51, V52⟩ := u
                        replace hP := hB.1
                        rw [ht] at hP
                        replace hD : va_D A (mW h a k F51 V52) := hB.2.weaken (fun _ q _ h9 => hFc q.1 h9)
                        clear hB
                        generalize H1 = H at hP hS ⊢
                        replace hP : va_P (dC, dI) vwCl (mW h a k F51 V52) H := hP
                        obtain ⟨hwI, hwU, hwV, hw⟩ := hw
                        replace hU : ∀ j : Nat, j ∉ ([27, 28, 29, 30, 31, 32] : List Nat) → F51 j = F j := mw_tr (by decide) hwU hU
                        replace hV : ∀ j : Nat, j ∉ ([33] : List Nat) → V52 j = V j := mw_tr (by decide) hwV hV
                        replace hI : StM n (b + 0) F V F51 V52 := hI.trans hwI
                        replace hI : StM n (b) F V F51 V52 := hI
                        refine lv_iconst (v := 0) hx hb dX9_look_253 (by decide) ?_
                        refine lv_istore (lv' := [(4, .int 0), (3, .int r36), (0, .ref h), (1, .int p0), (2, .int (nI xv))]) hx hb dX9_look_254 hl (by decide) rfl (fun ls hl => ?_)
                        have lp56 : ∀ (fu54 i53 : Nat)  (F57 : Nat → Nat → Int32) (V58 : Nat → Int32) (H : Heap) (locs : List Loc) (ls : Array Slot), n < i53 + fu54 → i53 ≤ n → StM n (b) F V F57 V58 → (∀ j : Nat, j ∉ ([27, 28, 29, 30, 31, 32] : List Nat) → F57 j = F j) → (∀ j : Nat, j ∉ ([33] : List Nat) → V58 j = V j) → va_P (dC, dI) vwCl (mW h a k F57 V58) H → va_D A (mW h a k F57 V58) → va_S A s.heap H locs → lv_has ls 7 [(4, .int (nI i53)), (3, .int r36), (0, .ref h), (1, .int p0), (2, .int (nI xv))] → W p l e (headSpec wq_m_look rm_m_look).room s m ([.ref h, .int p0, .int (nI xv)] : List Value).toArray below meth c H locs 0 0 Q0 (F0 m 256 ls []) := by
                          intro fu54
                          induction fu54 with
                          | zero =>
                            intro i53  F57 V58 H locs ls hf hi
                            exact absurd hf (by omega)
                          | succ fu54 ih55 =>
                            intro i53  F57 V58 H locs ls hfi53 hii53 hI hU hV hP hD hS hl
                            refine lv_iload hx hb dX9_look_256 (lv_at hl 0 rfl) ?_
                            refine lv_aload_n hx hb dX9_look_258 rfl (lv_at hl 2 rfl) ?_
                            refine va_get (D := (dC, dI)) (ci := 10) (v := .int (V58 21)) (C := RX9) (T := TX9) (N := 46) hx hb hts in_m_look_X9 hown hK hP 0 rfl rfl 21 (by decide) (hts (.fieldLink RX9 126 "ServiceTreeModel" "services" "I") (by decide +kernel)) (fun _ h9 => h9) rfl dX9_look_259 ?_
                            refine p1_topr (v := .int (nI n)) (congrArg Value.int hI.1.2.1) ?_
                            refine lv_icmp_ge (tgt := 295) hx hb dX9_look_262 (by decide) (fun c59 => ?_) (fun c59 => ?_)
                            · replace c59 : n ≤ i53 := (nI_leI (a := n) (b := i53) (by omega) (by omega)).mp c59
                              refine lv_iconst (v := 0) hx hb dX9_look_295 (by decide) ?_
                              refine lv_istore (lv' := [(4, .int 0), (3, .int r36), (0, .ref h), (1, .int p0), (2, .int (nI xv))]) hx hb dX9_look_296 hl (by decide) rfl (fun ls hl => ?_)
                              have lp63 : ∀ (fu61 i60 : Nat)  (F64 : Nat → Nat → Int32) (V65 : Nat → Int32) (H : Heap) (locs : List Loc) (ls : Array Slot), n < i60 + fu61 → i60 ≤ n → StM n (b) F V F64 V65 → (∀ j : Nat, j ∉ ([27, 28, 29, 30, 31, 32] : List Nat) → F64 j = F j) → (∀ j : Nat, j ∉ ([33] : List Nat) → V65 j = V j) → va_P (dC, dI) vwCl (mW h a k F64 V65) H → va_D A (mW h a k F64 V65) → va_S A s.heap H locs → lv_has ls 7 [(4, .int (nI i60)), (3, .int r36), (0, .ref h), (1, .int p0), (2, .int (nI xv))] → W p l e (headSpec wq_m_look rm_m_look).room s m ([.ref h, .int p0, .int (nI xv)] : List Value).toArray below meth c H locs 0 0 Q0 (F0 m 298 ls []) := by
                                intro fu61
                                induction fu61 with
                                | zero =>
                                  intro i60  F64 V65 H locs ls hf hi
                                  exact absurd hf (by omega)
                                | succ fu61 ih62 =>
                                  intro i60  F64 V65 H locs ls hfi60 hii60 hI hU hV hP hD hS hl
                                  refine lv_iload hx hb dX9_look_298 (lv_at hl 0 rfl) ?_
                                  refine lv_aload_n hx hb dX9_look_300 rfl (lv_at hl 2 rfl) ?_
                                  refine va_get (D := (dC, dI)) (ci := 10) (v := .int (V65 21)) (C := RX9) (T := TX9) (N := 46) hx hb hts in_m_look_X9 hown hK hP 0 rfl rfl 21 (by decide) (hts (.fieldLink RX9 126 "ServiceTreeModel" "services" "I") (by decide +kernel)) (fun _ h9 => h9) rfl dX9_look_301 ?_
                                  refine p1_topr (v := .int (nI n)) (congrArg Value.int hI.1.2.1) ?_
                                  refine lv_icmp_ge (tgt := 352) hx hb dX9_look_304 (by decide) (fun c66 => ?_) (fun c66 => ?_)
                                  · replace c66 : n ≤ i60 := (nI_leI (a := n) (b := i60) (by omega) (by omega)).mp c66
                                    exact jn22 F64 V65 _ _ _ (hI.mono (by omega)) hU hV hP hD hS (lv_sub hl [2, 3, 4] rfl)
                                  · replace c66 : ¬ (n ≤ i60) := fun q9 => c66 ((nI_leI (a := n) (b := i60) (by omega) (by omega)).mpr q9)
                                    refine lv_aload_n hx hb dX9_look_307 rfl (lv_at hl 2 rfl) ?_
                                    refine va_get (D := (dC, dI)) (ci := 10) (v := .ref (a 30)) (C := RX9) (T := TX9) (N := 46) hx hb hts in_m_look_X9 hown hK hP 0 rfl rfl 30 (by decide) (hts (.fieldLink RX9 86 "ServiceTreeModel" "newJob" "[I") (by decide +kernel)) (fun _ h9 => h9) rfl dX9_look_308 ?_
                                    refine lv_iload hx hb dX9_look_311 (lv_at hl 0 rfl) ?_
                                    refine lv_aload_n hx hb dX9_look_313 rfl (lv_at hl 2 rfl) ?_
                                    refine va_get (D := (dC, dI)) (ci := 10) (v := .ref (a 27)) (C := RX9) (T := TX9) (N := 46) hx hb hts in_m_look_X9 hown hK hP 0 rfl rfl 27 (by decide) (hts (.fieldLink RX9 77 "ServiceTreeModel" "member" "[Z") (by decide +kernel)) (fun _ h9 => h9) rfl dX9_look_314 ?_
                                    refine lv_iload hx hb dX9_look_317 (lv_at hl 0 rfl) ?_
                                    refine va_zald (n := 40) (f := F64 27) hx hb hK hP 23 22 rfl rfl (vp_in_nI (n := i60) (by omega) (by decide)) dX9_look_319 ?_
                                    refine lv_topi (fun x67 ex67 => ?_)
                                    refine lv_if_eq (tgt := 338) hx hb dX9_look_320 (by decide) (fun c68 => ?_) (fun c68 => ?_)
                                    · refine lv_aload_n hx hb dX9_look_338 rfl (lv_at hl 2 rfl) ?_
                                      refine va_get (D := (dC, dI)) (ci := 10) (v := .ref (a 30)) (C := RX9) (T := TX9) (N := 46) hx hb hts in_m_look_X9 hown hK hP 0 rfl rfl 30 (by decide) (hts (.fieldLink RX9 86 "ServiceTreeModel" "newJob" "[I") (by decide +kernel)) (fun _ h9 => h9) rfl dX9_look_339 ?_
                                      refine lv_iload hx hb dX9_look_342 (lv_at hl 0 rfl) ?_
                                      refine va_iald (n := 40) (f := F64 30) hx hb hK hP 26 25 rfl rfl (vp_in_nI (n := i60) (by omega) (by decide)) dX9_look_344 ?_
                                      refine lv_topi (fun x69 ex69 => ?_)
                                      refine va_iast (n := 40) (f := F64 30) hx hb hK hP hD hS 26 25 rfl rfl (vp_in_nI (n := i60) (by omega) (by decide)) dX9_look_345 (fun H locs hP hD hS => ?_)
                                      rw [mW_set_30] at hP hD
                                      obtain ⟨F70, eF70⟩ : ∃ f9 : Nat → Nat → Int32, f9 = va_up F64 30 (upd (F64 30) (nI i60).toNatClampNeg x69) := ⟨_, rfl⟩
                                      rw [← eF70] at hP hD
                                      replace hI : StM n (b) F V F70 V65 := ⟨by rw [eF70]; exact hI.1.setF (by decide), trivial⟩
                                      replace hU : ∀ j : Nat, j ∉ ([27, 28, 29, 30, 31, 32] : List Nat) → F70 j = F j := by rw [eF70]; exact mw_up (by decide) hU
                                      refine lv_iinc (v := nI (i60 + 1)) (lv' := [(4, .int (nI (i60 + 1))), (3, .int r36), (0, .ref h), (1, .int p0), (2, .int (nI xv))]) hx hb dX9_look_346 hl (k := 0) rfl (nI_add i60 1) (by decide) rfl (fun ls hl => ?_)
                                      refine lv_goto (tgt := 298) hx hb dX9_look_349 (by decide) ?_
                                      exact ih62 (i60 + 1)  F70 V65 _ _ _ (by omega) (by omega) (hI.mono (by omega)) hU hV  hP hD hS (lv_sub hl [0, 1, 2, 3, 4] rfl)
                                    · refine lv_aload_n hx hb dX9_look_323 rfl (lv_at hl 2 rfl) ?_
                                      refine va_get (D := (dC, dI)) (ci := 10) (v := .ref (a 7)) (C := RX9) (T := TX9) (N := 46) hx hb hts in_m_look_X9 hown hK hP 0 rfl rfl 7 (by decide) (hts (.fieldLink RX9 31 "ServiceTreeModel" "state" "[I") (by decide +kernel)) (fun _ h9 => h9) rfl dX9_look_324 ?_
                                      refine lv_iload hx hb dX9_look_327 (lv_at hl 0 rfl) ?_
                                      refine va_iald (n := 40) (f := F64 7) hx hb hK hP 8 7 rfl rfl (vp_in_nI (n := i60) (by omega) (by decide)) dX9_look_329 ?_
                                      refine lv_topi (fun x71 ex71 => ?_)
                                      refine lv_iconst (v := 2) hx hb dX9_look_330 (by decide) ?_
                                      refine lv_icmp_eq (tgt := 338) hx hb dX9_look_331 (by decide) (fun c72 => ?_) (fun c72 => ?_)
                                      · refine lv_aload_n hx hb dX9_look_338 rfl (lv_at hl 2 rfl) ?_
                                        refine va_get (D := (dC, dI)) (ci := 10) (v := .ref (a 30)) (C := RX9) (T := TX9) (N := 46) hx hb hts in_m_look_X9 hown hK hP 0 rfl rfl 30 (by decide) (hts (.fieldLink RX9 86 "ServiceTreeModel" "newJob" "[I") (by decide +kernel)) (fun _ h9 => h9) rfl dX9_look_339 ?_
                                        refine lv_iload hx hb dX9_look_342 (lv_at hl 0 rfl) ?_
                                        refine va_iald (n := 40) (f := F64 30) hx hb hK hP 26 25 rfl rfl (vp_in_nI (n := i60) (by omega) (by decide)) dX9_look_344 ?_
                                        refine lv_topi (fun x73 ex73 => ?_)
                                        refine va_iast (n := 40) (f := F64 30) hx hb hK hP hD hS 26 25 rfl rfl (vp_in_nI (n := i60) (by omega) (by decide)) dX9_look_345 (fun H locs hP hD hS => ?_)
                                        rw [mW_set_30] at hP hD
                                        obtain ⟨F74, eF74⟩ : ∃ f9 : Nat → Nat → Int32, f9 = va_up F64 30 (upd (F64 30) (nI i60).toNatClampNeg x73) := ⟨_, rfl⟩
                                        rw [← eF74] at hP hD
                                        replace hI : StM n (b) F V F74 V65 := ⟨by rw [eF74]; exact hI.1.setF (by decide), trivial⟩
                                        replace hU : ∀ j : Nat, j ∉ ([27, 28, 29, 30, 31, 32] : List Nat) → F74 j = F j := by rw [eF74]; exact mw_up (by decide) hU
                                        refine lv_iinc (v := nI (i60 + 1)) (lv' := [(4, .int (nI (i60 + 1))), (3, .int r36), (0, .ref h), (1, .int p0), (2, .int (nI xv))]) hx hb dX9_look_346 hl (k := 0) rfl (nI_add i60 1) (by decide) rfl (fun ls hl => ?_)
                                        refine lv_goto (tgt := 298) hx hb dX9_look_349 (by decide) ?_
                                        exact ih62 (i60 + 1)  F74 V65 _ _ _ (by omega) (by omega) (hI.mono (by omega)) hU hV  hP hD hS (lv_sub hl [0, 1, 2, 3, 4] rfl)
                                      · refine lv_iconst (v := 1) hx hb dX9_look_334 (by decide) ?_
                                        refine lv_goto (tgt := 345) hx hb dX9_look_335 (by decide) ?_
                                        refine va_iast (n := 40) (f := F64 30) hx hb hK hP hD hS 26 25 rfl rfl (vp_in_nI (n := i60) (by omega) (by decide)) dX9_look_345 (fun H locs hP hD hS => ?_)
                                        rw [mW_set_30] at hP hD
                                        obtain ⟨F75, eF75⟩ : ∃ f9 : Nat → Nat → Int32, f9 = va_up F64 30 (upd (F64 30) (nI i60).toNatClampNeg 1) := ⟨_, rfl⟩
                                        rw [← eF75] at hP hD
                                        replace hI : StM n (b) F V F75 V65 := ⟨by rw [eF75]; exact hI.1.setF (by decide), trivial⟩
                                        replace hU : ∀ j : Nat, j ∉ ([27, 28, 29, 30, 31, 32] : List Nat) → F75 j = F j := by rw [eF75]; exact mw_up (by decide) hU
                                        refine lv_iinc (v := nI (i60 + 1)) (lv' := [(4, .int (nI (i60 + 1))), (3, .int r36), (0, .ref h), (1, .int p0), (2, .int (nI xv))]) hx hb dX9_look_346 hl (k := 0) rfl (nI_add i60 1) (by decide) rfl (fun ls hl => ?_)
                                        refine lv_goto (tgt := 298) hx hb dX9_look_349 (by decide) ?_
                                        exact ih62 (i60 + 1)  F75 V65 _ _ _ (by omega) (by omega) (hI.mono (by omega)) hU hV  hP hD hS (lv_sub hl [0, 1, 2, 3, 4] rfl)
                              exact lp63 (n + 1) 0  F57 V58 _ _ _ (by omega) (by omega) (hI.mono (by omega)) hU hV  hP hD hS hl
                            · replace c59 : ¬ (n ≤ i53) := fun q9 => c59 ((nI_leI (a := n) (b := i53) (by omega) (by omega)).mpr q9)
                              refine lv_aload_n hx hb dX9_look_265 rfl (lv_at hl 2 rfl) ?_
                              refine va_get (D := (dC, dI)) (ci := 10) (v := .ref (a 27)) (C := RX9) (T := TX9) (N := 46) hx hb hts in_m_look_X9 hown hK hP 0 rfl rfl 27 (by decide) (hts (.fieldLink RX9 77 "ServiceTreeModel" "member" "[Z") (by decide +kernel)) (fun _ h9 => h9) rfl dX9_look_266 ?_
                              refine lv_iload hx hb dX9_look_269 (lv_at hl 0 rfl) ?_
                              refine va_zald (n := 40) (f := F57 27) hx hb hK hP 23 22 rfl rfl (vp_in_nI (n := i53) (by omega) (by decide)) dX9_look_271 ?_
                              refine lv_topi (fun x76 ex76 => ?_)
                              refine lv_if_eq (tgt := 289) hx hb dX9_look_272 (by decide) (fun c77 => ?_) (fun c77 => ?_)
                              · refine lv_iinc (v := nI (i53 + 1)) (lv' := [(4, .int (nI (i53 + 1))), (3, .int r36), (0, .ref h), (1, .int p0), (2, .int (nI xv))]) hx hb dX9_look_289 hl (k := 0) rfl (nI_add i53 1) (by decide) rfl (fun ls hl => ?_)
                                refine lv_goto (tgt := 256) hx hb dX9_look_292 (by decide) ?_
                                exact ih55 (i53 + 1)  F57 V58 _ _ _ (by omega) (by omega) (hI.mono (by omega)) hU hV  hP hD hS (lv_sub hl [0, 1, 2, 3, 4] rfl)
                              · refine lv_aload_n hx hb dX9_look_275 rfl (lv_at hl 2 rfl) ?_
                                refine va_get (D := (dC, dI)) (ci := 10) (v := .ref (a 30)) (C := RX9) (T := TX9) (N := 46) hx hb hts in_m_look_X9 hown hK hP 0 rfl rfl 30 (by decide) (hts (.fieldLink RX9 86 "ServiceTreeModel" "newJob" "[I") (by decide +kernel)) (fun _ h9 => h9) rfl dX9_look_276 ?_
                                refine lv_iload hx hb dX9_look_279 (lv_at hl 0 rfl) ?_
                                refine va_iald (n := 40) (f := F57 30) hx hb hK hP 26 25 rfl rfl (vp_in_nI (n := i53) (by omega) (by decide)) dX9_look_281 ?_
                                refine lv_topi (fun x78 ex78 => ?_)
                                refine lv_iconst (v := 2) hx hb dX9_look_282 (by decide) ?_
                                refine lv_icmp_ne (tgt := 289) hx hb dX9_look_283 (by decide) (fun c79 => ?_) (fun c79 => ?_)
                                · refine lv_iinc (v := nI (i53 + 1)) (lv' := [(4, .int (nI (i53 + 1))), (3, .int r36), (0, .ref h), (1, .int p0), (2, .int (nI xv))]) hx hb dX9_look_289 hl (k := 0) rfl (nI_add i53 1) (by decide) rfl (fun ls hl => ?_)
                                  refine lv_goto (tgt := 256) hx hb dX9_look_292 (by decide) ?_
                                  exact ih55 (i53 + 1)  F57 V58 _ _ _ (by omega) (by omega) (hI.mono (by omega)) hU hV  hP hD hS (lv_sub hl [0, 1, 2, 3, 4] rfl)
                                · refine lv_bipush (v := (-4)) hx hb dX9_look_286 (by decide) ?_
                                  rw [hQ]
                                  exact W.iret (v := (-4)) hx hb hr (fun t ht hW => ⟨⟨(-4), (F57, V58), rfl, ⟨hI.mono (by omega), hU, hV, trivial⟩, by rw [ht]; exact hP, hD⟩, hS.F ht⟩) hS.2.2 dX9_look_288
                        exact lp56 (n + 1) 0  F51 V52 _ _ _ (by omega) (by omega) (hI.mono (by omega)) hU hV  hP hD hS hl
                      · replace c49 : ¬ (n ≤ i43) := fun q9 => c49 ((nI_leI (a := n) (b := i43) (by omega) (by omega)).mpr q9)
                        refine lv_iload_n hx hb dX9_look_142 rfl (lv_at hl 3 rfl) ?_
                        refine lv_iconst (v := 2) hx hb dX9_look_143 (by decide) ?_
                        refine lv_icmp_ne (tgt := 161) hx hb dX9_look_144 (by decide) (fun c80 => ?_) (fun c80 => ?_)
                        · refine lv_iconst (v := 0) hx hb dX9_look_161 (by decide) ?_
                          refine lv_istore (lv' := [(5, .int 0), (4, .int (nI i43)), (3, .int r36), (0, .ref h), (1, .int p0), (2, .int (nI xv))]) hx hb dX9_look_162 hl (by decide) rfl (fun ls hl => ?_)
                          refine lv_iconst (v := 0) hx hb dX9_look_164 (by decide) ?_
                          refine lv_istore (lv' := [(6, .int 0), (5, .int 0), (4, .int (nI i43)), (3, .int r36), (0, .ref h), (1, .int p0), (2, .int (nI xv))]) hx hb dX9_look_165 hl (by decide) rfl (fun ls hl => ?_)
                          have lp84 : ∀ (fu82 i81 : Nat) (y87 : Int32) (F85 : Nat → Nat → Int32) (V86 : Nat → Int32) (H : Heap) (locs : List Loc) (ls : Array Slot), n < i81 + fu82 → i81 ≤ n → StM n (b) F V F85 V86 → (∀ j : Nat, j ∉ ([27, 28, 29, 30, 31, 32] : List Nat) → F85 j = F j) → (∀ j : Nat, j ∉ ([33] : List Nat) → V86 j = V j) → va_P (dC, dI) vwCl (mW h a k F85 V86) H → va_D A (mW h a k F85 V86) → va_S A s.heap H locs → lv_has ls 7 [(6, .int (nI i81)), (5, .int y87), (4, .int (nI i43)), (3, .int r36), (0, .ref h), (1, .int p0), (2, .int (nI xv))] → W p l e (headSpec wq_m_look rm_m_look).room s m ([.ref h, .int p0, .int (nI xv)] : List Value).toArray below meth c H locs 0 0 Q0 (F0 m 167 ls []) := by
                            intro fu82
                            induction fu82 with
                            | zero =>
                              intro i81 y87 F85 V86 H locs ls hf hi
                              exact absurd hf (by omega)
                            | succ fu82 ih83 =>
                              intro i81 y87 F85 V86 H locs ls hfi81 hii81 hI hU hV hP hD hS hl
                              refine lv_iload hx hb dX9_look_167 (lv_at hl 0 rfl) ?_
                              refine lv_aload_n hx hb dX9_look_169 rfl (lv_at hl 4 rfl) ?_
                              refine va_get (D := (dC, dI)) (ci := 10) (v := .int (V86 21)) (C := RX9) (T := TX9) (N := 46) hx hb hts in_m_look_X9 hown hK hP 0 rfl rfl 21 (by decide) (hts (.fieldLink RX9 126 "ServiceTreeModel" "services" "I") (by decide +kernel)) (fun _ h9 => h9) rfl dX9_look_170 ?_
                              refine p1_topr (v := .int (nI n)) (congrArg Value.int hI.1.2.1) ?_
                              refine lv_icmp_ge (tgt := 216) hx hb dX9_look_173 (by decide) (fun c88 => ?_) (fun c88 => ?_)
                              · replace c88 : n ≤ i81 := (nI_leI (a := n) (b := i81) (by omega) (by omega)).mp c88
                                refine lv_aload_n hx hb dX9_look_216 rfl (lv_at hl 4 rfl) ?_
                                refine va_get (D := (dC, dI)) (ci := 10) (v := .ref (a 30)) (C := RX9) (T := TX9) (N := 46) hx hb hts in_m_look_X9 hown hK hP 0 rfl rfl 30 (by decide) (hts (.fieldLink RX9 86 "ServiceTreeModel" "newJob" "[I") (by decide +kernel)) (fun _ h9 => h9) rfl dX9_look_217 ?_
                                refine lv_iload hx hb dX9_look_220 (lv_at hl 2 rfl) ?_
                                refine lv_iload hx hb dX9_look_222 (lv_at hl 1 rfl) ?_
                                refine lv_if_eq (tgt := 240) hx hb dX9_look_224 (by decide) (fun c89 => ?_) (fun c89 => ?_)
                                · refine lv_iconst (v := 0) hx hb dX9_look_240 (by decide) ?_
                                  refine va_iast (n := 40) (f := F85 30) hx hb hK hP hD hS 26 25 rfl rfl (vp_in_nI (n := i43) (by omega) (by decide)) dX9_look_241 (fun H locs hP hD hS => ?_)
                                  rw [mW_set_30] at hP hD
                                  obtain ⟨F90, eF90⟩ : ∃ f9 : Nat → Nat → Int32, f9 = va_up F85 30 (upd (F85 30) (nI i43).toNatClampNeg 0) := ⟨_, rfl⟩
                                  rw [← eF90] at hP hD
                                  replace hI : StM n (b) F V F90 V86 := ⟨by rw [eF90]; exact hI.1.setF (by decide), trivial⟩
                                  replace hU : ∀ j : Nat, j ∉ ([27, 28, 29, 30, 31, 32] : List Nat) → F90 j = F j := by rw [eF90]; exact mw_up (by decide) hU
                                  refine lv_iinc (v := nI (i43 + 1)) (lv' := [(4, .int (nI (i43 + 1))), (6, .int (nI i81)), (5, .int y87), (3, .int r36), (0, .ref h), (1, .int p0), (2, .int (nI xv))]) hx hb dX9_look_242 hl (k := 2) rfl (nI_add i43 1) (by decide) rfl (fun ls hl => ?_)
                                  refine lv_goto (tgt := 133) hx hb dX9_look_245 (by decide) ?_
                                  exact ih45 (i43 + 1)  F90 V86 _ _ _ (by omega) (by omega) (hI.mono (by omega)) hU hV  hP hD hS (lv_sub hl [0, 3, 4, 5, 6] rfl)
                                · refine lv_aload_n hx hb dX9_look_227 rfl (lv_at hl 4 rfl) ?_
                                  refine lv_iload hx hb dX9_look_228 (lv_at hl 2 rfl) ?_
                                  have hFc := mw_free hD hS hA
                                  refine va_calli (va_runV (As := [.int (nI i43)]) (rest := [.int (nI i43), .ref (a 30)]) ⟨hx, hb, hml, hown, hts⟩ (c_m_isUpOrWaiting l dC dI h a k F85 V86 n (b) i43 H.size hI.1 (by omega) (by omega)) (cwV 1 hts wc_m_look_m_isUpOrWaiting_171 rfl rfl rfl (by decide +kernel) ⟨Nat.le_of_ble_eq_true rfl, Nat.le_of_ble_eq_true rfl⟩) ⟨fun a9 U g mk q => by obtain ⟨q0, q1, qP, qK, qD⟩ := q; exact ⟨q0, q1, qP, va_K.moved (u := U) (U := U.calling g mk a9) (Vm.Alike.refl U.vm) qK, qD⟩, va_recv hK hP (ci := 10) (q0 := 0) rfl rfl, fun U hU hW => ⟨rfl, by rw [hU], by rw [hU]; exact hP, va_K.moved hW.alike hK, hD.weaken (fun _ _ _ _ => trivial)⟩⟩ rfl rfl hl.1 rfl (lv_room (Nat.le_of_ble_eq_true rfl)) dX9_look_230 ⟨Nat.le_of_ble_eq_true rfl, Nat.le_of_ble_eq_true rfl⟩) hS (fun q _ h => hFc q h) hFc (fun r91 u t H1 locs ht hvm hw hB hz1 hk1 hS => ?_)
                                  obtain ⟨F92, V93⟩ := u
                                  replace hP := hB.1
                                  rw [ht] at hP
                                  replace hD : va_D A (mW h a k F92 V93) := hB.2.weaken (fun _ q _ h9 => hFc q.1 h9)
                                  clear hB
                                  generalize H1 = H at hP hS ⊢
                                  replace hP : va_P (dC, dI) vwCl (mW h a k F92 V93) H := hP
                                  obtain ⟨hwF, hwV, hw⟩ : F92 = F85 ∧ V93 = V86 ∧ _ := hw
                                  rw [hwF, hwV] at hP hD
                                  refine lv_if_eq (tgt := 240) hx hb dX9_look_233 (by decide) (fun c94 => ?_) (fun c94 => ?_)
                                  · refine lv_iconst (v := 0) hx hb dX9_look_240 (by decide) ?_
                                    refine va_iast (n := 40) (f := F85 30) hx hb hK hP hD hS 26 25 rfl rfl (vp_in_nI (n := i43) (by omega) (by decide)) dX9_look_241 (fun H locs hP hD hS => ?_)
                                    rw [mW_set_30] at hP hD
                                    obtain ⟨F95, eF95⟩ : ∃ f9 : Nat → Nat → Int32, f9 = va_up F85 30 (upd (F85 30) (nI i43).toNatClampNeg 0) := ⟨_, rfl⟩
                                    rw [← eF95] at hP hD
                                    replace hI : StM n (b) F V F95 V86 := ⟨by rw [eF95]; exact hI.1.setF (by decide), trivial⟩
                                    replace hU : ∀ j : Nat, j ∉ ([27, 28, 29, 30, 31, 32] : List Nat) → F95 j = F j := by rw [eF95]; exact mw_up (by decide) hU
                                    refine lv_iinc (v := nI (i43 + 1)) (lv' := [(4, .int (nI (i43 + 1))), (6, .int (nI i81)), (5, .int y87), (3, .int r36), (0, .ref h), (1, .int p0), (2, .int (nI xv))]) hx hb dX9_look_242 hl (k := 2) rfl (nI_add i43 1) (by decide) rfl (fun ls hl => ?_)
                                    refine lv_goto (tgt := 133) hx hb dX9_look_245 (by decide) ?_
                                    exact ih45 (i43 + 1)  F95 V86 _ _ _ (by omega) (by omega) (hI.mono (by omega)) hU hV  hP hD hS (lv_sub hl [0, 3, 4, 5, 6] rfl)
                                  · refine lv_iconst (v := 2) hx hb dX9_look_236 (by decide) ?_
                                    refine lv_goto (tgt := 241) hx hb dX9_look_237 (by decide) ?_
                                    refine va_iast (n := 40) (f := F85 30) hx hb hK hP hD hS 26 25 rfl rfl (vp_in_nI (n := i43) (by omega) (by decide)) dX9_look_241 (fun H locs hP hD hS => ?_)
                                    rw [mW_set_30] at hP hD
                                    obtain ⟨F96, eF96⟩ : ∃ f9 : Nat → Nat → Int32, f9 = va_up F85 30 (upd (F85 30) (nI i43).toNatClampNeg 2) := ⟨_, rfl⟩
                                    rw [← eF96] at hP hD
                                    replace hI : StM n (b) F V F96 V86 := ⟨by rw [eF96]; exact hI.1.setF (by decide), trivial⟩
                                    replace hU : ∀ j : Nat, j ∉ ([27, 28, 29, 30, 31, 32] : List Nat) → F96 j = F j := by rw [eF96]; exact mw_up (by decide) hU
                                    refine lv_iinc (v := nI (i43 + 1)) (lv' := [(4, .int (nI (i43 + 1))), (6, .int (nI i81)), (5, .int y87), (3, .int r36), (0, .ref h), (1, .int p0), (2, .int (nI xv))]) hx hb dX9_look_242 hl (k := 2) rfl (nI_add i43 1) (by decide) rfl (fun ls hl => ?_)
                                    refine lv_goto (tgt := 133) hx hb dX9_look_245 (by decide) ?_
                                    exact ih45 (i43 + 1)  F96 V86 _ _ _ (by omega) (by omega) (hI.mono (by omega)) hU hV  hP hD hS (lv_sub hl [0, 3, 4, 5, 6] rfl)
                              · replace c88 : ¬ (n ≤ i81) := fun q9 => c88 ((nI_leI (a := n) (b := i81) (by omega) (by omega)).mpr q9)
                                refine lv_iload hx hb dX9_look_176 (lv_at hl 1 rfl) ?_
                                refine lv_if_ne (tgt := 203) hx hb dX9_look_178 (by decide) (fun c97 => ?_) (fun c97 => ?_)
                                · refine lv_iconst (v := 1) hx hb dX9_look_203 (by decide) ?_
                                  refine lv_goto (tgt := 208) hx hb dX9_look_204 (by decide) ?_
                                  refine lv_istore (lv' := [(5, .int 1), (6, .int (nI i81)), (4, .int (nI i43)), (3, .int r36), (0, .ref h), (1, .int p0), (2, .int (nI xv))]) hx hb dX9_look_208 hl (by decide) rfl (fun ls hl => ?_)
                                  refine lv_iinc (v := nI (i81 + 1)) (lv' := [(6, .int (nI (i81 + 1))), (5, .int 1), (4, .int (nI i43)), (3, .int r36), (0, .ref h), (1, .int p0), (2, .int (nI xv))]) hx hb dX9_look_210 hl (k := 1) rfl (nI_add i81 1) (by decide) rfl (fun ls hl => ?_)
                                  refine lv_goto (tgt := 167) hx hb dX9_look_213 (by decide) ?_
                                  exact ih83 (i81 + 1) 1 F85 V86 _ _ _ (by omega) (by omega) (hI.mono (by omega)) hU hV  hP hD hS (lv_sub hl [0, 1, 2, 3, 4, 5, 6] rfl)
                                · refine lv_aload_n hx hb dX9_look_181 rfl (lv_at hl 4 rfl) ?_
                                  refine va_get (D := (dC, dI)) (ci := 10) (v := .ref (a 27)) (C := RX9) (T := TX9) (N := 46) hx hb hts in_m_look_X9 hown hK hP 0 rfl rfl 27 (by decide) (hts (.fieldLink RX9 77 "ServiceTreeModel" "member" "[Z") (by decide +kernel)) (fun _ h9 => h9) rfl dX9_look_182 ?_
                                  refine lv_iload hx hb dX9_look_185 (lv_at hl 0 rfl) ?_
                                  refine va_zald (n := 40) (f := F85 27) hx hb hK hP 23 22 rfl rfl (vp_in_nI (n := i81) (by omega) (by decide)) dX9_look_187 ?_
                                  refine lv_topi (fun x98 ex98 => ?_)
                                  refine lv_if_eq (tgt := 207) hx hb dX9_look_188 (by decide) (fun c99 => ?_) (fun c99 => ?_)
                                  · refine lv_iconst (v := 0) hx hb dX9_look_207 (by decide) ?_
                                    refine lv_istore (lv' := [(5, .int 0), (6, .int (nI i81)), (4, .int (nI i43)), (3, .int r36), (0, .ref h), (1, .int p0), (2, .int (nI xv))]) hx hb dX9_look_208 hl (by decide) rfl (fun ls hl => ?_)
                                    refine lv_iinc (v := nI (i81 + 1)) (lv' := [(6, .int (nI (i81 + 1))), (5, .int 0), (4, .int (nI i43)), (3, .int r36), (0, .ref h), (1, .int p0), (2, .int (nI xv))]) hx hb dX9_look_210 hl (k := 1) rfl (nI_add i81 1) (by decide) rfl (fun ls hl => ?_)
                                    refine lv_goto (tgt := 167) hx hb dX9_look_213 (by decide) ?_
                                    exact ih83 (i81 + 1) 0 F85 V86 _ _ _ (by omega) (by omega) (hI.mono (by omega)) hU hV  hP hD hS (lv_sub hl [0, 1, 2, 3, 4, 5, 6] rfl)
                                  · refine lv_aload_n hx hb dX9_look_191 rfl (lv_at hl 4 rfl) ?_
                                    refine lv_iconst (v := 3) hx hb dX9_look_192 (by decide) ?_
                                    refine lv_iload hx hb dX9_look_193 (lv_at hl 2 rfl) ?_
                                    refine lv_iload hx hb dX9_look_195 (lv_at hl 0 rfl) ?_
                                    have hFc := mw_free hD hS hA
                                    refine va_calli (va_runV (As := [.int 3, .int (nI i43), .int (nI i81)]) (rest := []) ⟨hx, hb, hml, hown, hts⟩ (c_m_has l dC dI h a k F85 V86 n (b) 3 i43 i81 H.size hI.1 (by omega) (by omega) (by omega) (by omega)) (cwV 3 hts wc_m_look_m_has_150 rfl rfl rfl (by decide +kernel) ⟨Nat.le_of_ble_eq_true rfl, Nat.le_of_ble_eq_true rfl⟩) ⟨fun a9 U g mk q => by obtain ⟨q0, q1, qP, qK, qD⟩ := q; exact ⟨q0, q1, qP, va_K.moved (u := U) (U := U.calling g mk a9) (Vm.Alike.refl U.vm) qK, qD⟩, va_recv hK hP (ci := 10) (q0 := 0) rfl rfl, fun U hU hW => ⟨rfl, by rw [hU], by rw [hU]; exact hP, va_K.moved hW.alike hK, hD.weaken (fun _ _ _ _ => trivial)⟩⟩ rfl rfl hl.1 rfl (lv_room (Nat.le_of_ble_eq_true rfl)) dX9_look_197 ⟨Nat.le_of_ble_eq_true rfl, Nat.le_of_ble_eq_true rfl⟩) hS (fun q _ h => hFc q h) hFc (fun r100 u t H1 locs ht hvm hw hB hz1 hk1 hS => ?_)
                                    obtain ⟨F101, V102⟩ := u
                                    replace hP := hB.1
                                    rw [ht] at hP
                                    replace hD : va_D A (mW h a k F101 V102) := hB.2.weaken (fun _ q _ h9 => hFc q.1 h9)
                                    clear hB
                                    generalize H1 = H at hP hS ⊢
                                    replace hP : va_P (dC, dI) vwCl (mW h a k F101 V102) H := hP
                                    obtain ⟨hwF, hwV, hw⟩ : F101 = F85 ∧ V102 = V86 ∧ _ := hw
                                    rw [hwF, hwV] at hP hD
                                    have br100 := hw
                                    refine lv_if_eq (tgt := 207) hx hb dX9_look_200 (by decide) (fun c103 => ?_) (fun c103 => ?_)
                                    · refine lv_iconst (v := 0) hx hb dX9_look_207 (by decide) ?_
                                      refine lv_istore (lv' := [(5, .int 0), (6, .int (nI i81)), (4, .int (nI i43)), (3, .int r36), (0, .ref h), (1, .int p0), (2, .int (nI xv))]) hx hb dX9_look_208 hl (by decide) rfl (fun ls hl => ?_)
                                      refine lv_iinc (v := nI (i81 + 1)) (lv' := [(6, .int (nI (i81 + 1))), (5, .int 0), (4, .int (nI i43)), (3, .int r36), (0, .ref h), (1, .int p0), (2, .int (nI xv))]) hx hb dX9_look_210 hl (k := 1) rfl (nI_add i81 1) (by decide) rfl (fun ls hl => ?_)
                                      refine lv_goto (tgt := 167) hx hb dX9_look_213 (by decide) ?_
                                      exact ih83 (i81 + 1) 0 F85 V86 _ _ _ (by omega) (by omega) (hI.mono (by omega)) hU hV  hP hD hS (lv_sub hl [0, 1, 2, 3, 4, 5, 6] rfl)
                                    · refine lv_iconst (v := 1) hx hb dX9_look_203 (by decide) ?_
                                      refine lv_goto (tgt := 208) hx hb dX9_look_204 (by decide) ?_
                                      refine lv_istore (lv' := [(5, .int 1), (6, .int (nI i81)), (4, .int (nI i43)), (3, .int r36), (0, .ref h), (1, .int p0), (2, .int (nI xv))]) hx hb dX9_look_208 hl (by decide) rfl (fun ls hl => ?_)
                                      refine lv_iinc (v := nI (i81 + 1)) (lv' := [(6, .int (nI (i81 + 1))), (5, .int 1), (4, .int (nI i43)), (3, .int r36), (0, .ref h), (1, .int p0), (2, .int (nI xv))]) hx hb dX9_look_210 hl (k := 1) rfl (nI_add i81 1) (by decide) rfl (fun ls hl => ?_)
                                      refine lv_goto (tgt := 167) hx hb dX9_look_213 (by decide) ?_
                                      exact ih83 (i81 + 1) 1 F85 V86 _ _ _ (by omega) (by omega) (hI.mono (by omega)) hU hV  hP hD hS (lv_sub hl [0, 1, 2, 3, 4, 5, 6] rfl)
                          exact lp84 (n + 1) 0 0 F47 V48 _ _ _ (by omega) (by omega) (hI.mono (by omega)) hU hV  hP hD hS hl
                        · refine lv_aload_n hx hb dX9_look_147 rfl (lv_at hl 2 rfl) ?_
                          refine va_get (D := (dC, dI)) (ci := 10) (v := .ref (a 27)) (C := RX9) (T := TX9) (N := 46) hx hb hts in_m_look_X9 hown hK hP 0 rfl rfl 27 (by decide) (hts (.fieldLink RX9 77 "ServiceTreeModel" "member" "[Z") (by decide +kernel)) (fun _ h9 => h9) rfl dX9_look_148 ?_
                          refine lv_iload hx hb dX9_look_151 (lv_at hl 0 rfl) ?_
                          refine va_zald (n := 40) (f := F47 27) hx hb hK hP 23 22 rfl rfl (vp_in_nI (n := i43) (by omega) (by decide)) dX9_look_153 ?_
                          refine lv_topi (fun x104 ex104 => ?_)
                          refine lv_if_ne (tgt := 161) hx hb dX9_look_154 (by decide) (fun c105 => ?_) (fun c105 => ?_)
                          · refine lv_iconst (v := 0) hx hb dX9_look_161 (by decide) ?_
                            refine lv_istore (lv' := [(5, .int 0), (4, .int (nI i43)), (3, .int r36), (0, .ref h), (1, .int p0), (2, .int (nI xv))]) hx hb dX9_look_162 hl (by decide) rfl (fun ls hl => ?_)
                            refine lv_iconst (v := 0) hx hb dX9_look_164 (by decide) ?_
                            refine lv_istore (lv' := [(6, .int 0), (5, .int 0), (4, .int (nI i43)), (3, .int r36), (0, .ref h), (1, .int p0), (2, .int (nI xv))]) hx hb dX9_look_165 hl (by decide) rfl (fun ls hl => ?_)
                            have lp109 : ∀ (fu107 i106 : Nat) (y112 : Int32) (F110 : Nat → Nat → Int32) (V111 : Nat → Int32) (H : Heap) (locs : List Loc) (ls : Array Slot), n < i106 + fu107 → i106 ≤ n → StM n (b) F V F110 V111 → (∀ j : Nat, j ∉ ([27, 28, 29, 30, 31, 32] : List Nat) → F110 j = F j) → (∀ j : Nat, j ∉ ([33] : List Nat) → V111 j = V j) → va_P (dC, dI) vwCl (mW h a k F110 V111) H → va_D A (mW h a k F110 V111) → va_S A s.heap H locs → lv_has ls 7 [(6, .int (nI i106)), (5, .int y112), (4, .int (nI i43)), (3, .int r36), (0, .ref h), (1, .int p0), (2, .int (nI xv))] → W p l e (headSpec wq_m_look rm_m_look).room s m ([.ref h, .int p0, .int (nI xv)] : List Value).toArray below meth c H locs 0 0 Q0 (F0 m 167 ls []) := by
                              intro fu107
                              induction fu107 with
                              | zero =>
                                intro i106 y112 F110 V111 H locs ls hf hi
                                exact absurd hf (by omega)
                              | succ fu107 ih108 =>
                                intro i106 y112 F110 V111 H locs ls hfi106 hii106 hI hU hV hP hD hS hl
                                refine lv_iload hx hb dX9_look_167 (lv_at hl 0 rfl) ?_
                                refine lv_aload_n hx hb dX9_look_169 rfl (lv_at hl 4 rfl) ?_
                                refine va_get (D := (dC, dI)) (ci := 10) (v := .int (V111 21)) (C := RX9) (T := TX9) (N := 46) hx hb hts in_m_look_X9 hown hK hP 0 rfl rfl 21 (by decide) (hts (.fieldLink RX9 126 "ServiceTreeModel" "services" "I") (by decide +kernel)) (fun _ h9 => h9) rfl dX9_look_170 ?_
                                refine p1_topr (v := .int (nI n)) (congrArg Value.int hI.1.2.1) ?_
                                refine lv_icmp_ge (tgt := 216) hx hb dX9_look_173 (by decide) (fun c113 => ?_) (fun c113 => ?_)
                                · replace c113 : n ≤ i106 := (nI_leI (a := n) (b := i106) (by omega) (by omega)).mp c113
                                  refine lv_aload_n hx hb dX9_look_216 rfl (lv_at hl 4 rfl) ?_
                                  refine va_get (D := (dC, dI)) (ci := 10) (v := .ref (a 30)) (C := RX9) (T := TX9) (N := 46) hx hb hts in_m_look_X9 hown hK hP 0 rfl rfl 30 (by decide) (hts (.fieldLink RX9 86 "ServiceTreeModel" "newJob" "[I") (by decide +kernel)) (fun _ h9 => h9) rfl dX9_look_217 ?_
                                  refine lv_iload hx hb dX9_look_220 (lv_at hl 2 rfl) ?_
                                  refine lv_iload hx hb dX9_look_222 (lv_at hl 1 rfl) ?_
                                  refine lv_if_eq (tgt := 240) hx hb dX9_look_224 (by decide) (fun c114 => ?_) (fun c114 => ?_)
                                  · refine lv_iconst (v := 0) hx hb dX9_look_240 (by decide) ?_
                                    refine va_iast (n := 40) (f := F110 30) hx hb hK hP hD hS 26 25 rfl rfl (vp_in_nI (n := i43) (by omega) (by decide)) dX9_look_241 (fun H locs hP hD hS => ?_)
                                    rw [mW_set_30] at hP hD
                                    obtain ⟨F115, eF115⟩ : ∃ f9 : Nat → Nat → Int32, f9 = va_up F110 30 (upd (F110 30) (nI i43).toNatClampNeg 0) := ⟨_, rfl⟩
                                    rw [← eF115] at hP hD
                                    replace hI : StM n (b) F V F115 V111 := ⟨by rw [eF115]; exact hI.1.setF (by decide), trivial⟩
                                    replace hU : ∀ j : Nat, j ∉ ([27, 28, 29, 30, 31, 32] : List Nat) → F115 j = F j := by rw [eF115]; exact mw_up (by decide) hU
                                    refine lv_iinc (v := nI (i43 + 1)) (lv' := [(4, .int (nI (i43 + 1))), (6, .int (nI i106)), (5, .int y112), (3, .int r36), (0, .ref h), (1, .int p0), (2, .int (nI xv))]) hx hb dX9_look_242 hl (k := 2) rfl (nI_add i43 1) (by decide) rfl (fun ls hl => ?_)
                                    refine lv_goto (tgt := 133) hx hb dX9_look_245 (by decide) ?_
                                    exact ih45 (i43 + 1)  F115 V111 _ _ _ (by omega) (by omega) (hI.mono (by omega)) hU hV  hP hD hS (lv_sub hl [0, 3, 4, 5, 6] rfl)
                                  · refine lv_aload_n hx hb dX9_look_227 rfl (lv_at hl 4 rfl) ?_
                                    refine lv_iload hx hb dX9_look_228 (lv_at hl 2 rfl) ?_
                                    have hFc := mw_free hD hS hA
                                    refine va_calli (va_runV (As := [.int (nI i43)]) (rest := [.int (nI i43), .ref (a 30)]) ⟨hx, hb, hml, hown, hts⟩ (c_m_isUpOrWaiting l dC dI h a k F110 V111 n (b) i43 H.size hI.1 (by omega) (by omega)) (cwV 1 hts wc_m_look_m_isUpOrWaiting_171 rfl rfl rfl (by decide +kernel) ⟨Nat.le_of_ble_eq_true rfl, Nat.le_of_ble_eq_true rfl⟩) ⟨fun a9 U g mk q => by obtain ⟨q0, q1, qP, qK, qD⟩ := q; exact ⟨q0, q1, qP, va_K.moved (u := U) (U := U.calling g mk a9) (Vm.Alike.refl U.vm) qK, qD⟩, va_recv hK hP (ci := 10) (q0 := 0) rfl rfl, fun U hU hW => ⟨rfl, by rw [hU], by rw [hU]; exact hP, va_K.moved hW.alike hK, hD.weaken (fun _ _ _ _ => trivial)⟩⟩ rfl rfl hl.1 rfl (lv_room (Nat.le_of_ble_eq_true rfl)) dX9_look_230 ⟨Nat.le_of_ble_eq_true rfl, Nat.le_of_ble_eq_true rfl⟩) hS (fun q _ h => hFc q h) hFc (fun r116 u t H1 locs ht hvm hw hB hz1 hk1 hS => ?_)
                                    obtain ⟨F117, V118⟩ := u
                                    replace hP := hB.1
                                    rw [ht] at hP
                                    replace hD : va_D A (mW h a k F117 V118) := hB.2.weaken (fun _ q _ h9 => hFc q.1 h9)
                                    clear hB
                                    generalize H1 = H at hP hS ⊢
                                    replace hP : va_P (dC, dI) vwCl (mW h a k F117 V118) H := hP
                                    obtain ⟨hwF, hwV, hw⟩ : F117 = F110 ∧ V118 = V111 ∧ _ := hw
                                    rw [hwF, hwV] at hP hD
                                    refine lv_if_eq (tgt := 240) hx hb dX9_look_233 (by decide) (fun c119 => ?_) (fun c119 => ?_)
                                    · refine lv_iconst (v := 0) hx hb dX9_look_240 (by decide) ?_
                                      refine va_iast (n := 40) (f := F110 30) hx hb hK hP hD hS 26 25 rfl rfl (vp_in_nI (n := i43) (by omega) (by decide)) dX9_look_241 (fun H locs hP hD hS => ?_)
                                      rw [mW_set_30] at hP hD
                                      obtain ⟨F120, eF120⟩ : ∃ f9 : Nat → Nat → Int32, f9 = va_up F110 30 (upd (F110 30) (nI i43).toNatClampNeg 0) := ⟨_, rfl⟩
                                      rw [← eF120] at hP hD
                                      replace hI : StM n (b) F V F120 V111 := ⟨by rw [eF120]; exact hI.1.setF (by decide), trivial⟩
                                      replace hU : ∀ j : Nat, j ∉ ([27, 28, 29, 30, 31, 32] : List Nat) → F120 j = F j := by rw [eF120]; exact mw_up (by decide) hU
                                      refine lv_iinc (v := nI (i43 + 1)) (lv' := [(4, .int (nI (i43 + 1))), (6, .int (nI i106)), (5, .int y112), (3, .int r36), (0, .ref h), (1, .int p0), (2, .int (nI xv))]) hx hb dX9_look_242 hl (k := 2) rfl (nI_add i43 1) (by decide) rfl (fun ls hl => ?_)
                                      refine lv_goto (tgt := 133) hx hb dX9_look_245 (by decide) ?_
                                      exact ih45 (i43 + 1)  F120 V111 _ _ _ (by omega) (by omega) (hI.mono (by omega)) hU hV  hP hD hS (lv_sub hl [0, 3, 4, 5, 6] rfl)
                                    · refine lv_iconst (v := 2) hx hb dX9_look_236 (by decide) ?_
                                      refine lv_goto (tgt := 241) hx hb dX9_look_237 (by decide) ?_
                                      refine va_iast (n := 40) (f := F110 30) hx hb hK hP hD hS 26 25 rfl rfl (vp_in_nI (n := i43) (by omega) (by decide)) dX9_look_241 (fun H locs hP hD hS => ?_)
                                      rw [mW_set_30] at hP hD
                                      obtain ⟨F121, eF121⟩ : ∃ f9 : Nat → Nat → Int32, f9 = va_up F110 30 (upd (F110 30) (nI i43).toNatClampNeg 2) := ⟨_, rfl⟩
                                      rw [← eF121] at hP hD
                                      replace hI : StM n (b) F V F121 V111 := ⟨by rw [eF121]; exact hI.1.setF (by decide), trivial⟩
                                      replace hU : ∀ j : Nat, j ∉ ([27, 28, 29, 30, 31, 32] : List Nat) → F121 j = F j := by rw [eF121]; exact mw_up (by decide) hU
                                      refine lv_iinc (v := nI (i43 + 1)) (lv' := [(4, .int (nI (i43 + 1))), (6, .int (nI i106)), (5, .int y112), (3, .int r36), (0, .ref h), (1, .int p0), (2, .int (nI xv))]) hx hb dX9_look_242 hl (k := 2) rfl (nI_add i43 1) (by decide) rfl (fun ls hl => ?_)
                                      refine lv_goto (tgt := 133) hx hb dX9_look_245 (by decide) ?_
                                      exact ih45 (i43 + 1)  F121 V111 _ _ _ (by omega) (by omega) (hI.mono (by omega)) hU hV  hP hD hS (lv_sub hl [0, 3, 4, 5, 6] rfl)
                                · replace c113 : ¬ (n ≤ i106) := fun q9 => c113 ((nI_leI (a := n) (b := i106) (by omega) (by omega)).mpr q9)
                                  refine lv_iload hx hb dX9_look_176 (lv_at hl 1 rfl) ?_
                                  refine lv_if_ne (tgt := 203) hx hb dX9_look_178 (by decide) (fun c122 => ?_) (fun c122 => ?_)
                                  · refine lv_iconst (v := 1) hx hb dX9_look_203 (by decide) ?_
                                    refine lv_goto (tgt := 208) hx hb dX9_look_204 (by decide) ?_
                                    refine lv_istore (lv' := [(5, .int 1), (6, .int (nI i106)), (4, .int (nI i43)), (3, .int r36), (0, .ref h), (1, .int p0), (2, .int (nI xv))]) hx hb dX9_look_208 hl (by decide) rfl (fun ls hl => ?_)
                                    refine lv_iinc (v := nI (i106 + 1)) (lv' := [(6, .int (nI (i106 + 1))), (5, .int 1), (4, .int (nI i43)), (3, .int r36), (0, .ref h), (1, .int p0), (2, .int (nI xv))]) hx hb dX9_look_210 hl (k := 1) rfl (nI_add i106 1) (by decide) rfl (fun ls hl => ?_)
                                    refine lv_goto (tgt := 167) hx hb dX9_look_213 (by decide) ?_
                                    exact ih108 (i106 + 1) 1 F110 V111 _ _ _ (by omega) (by omega) (hI.mono (by omega)) hU hV  hP hD hS (lv_sub hl [0, 1, 2, 3, 4, 5, 6] rfl)
                                  · refine lv_aload_n hx hb dX9_look_181 rfl (lv_at hl 4 rfl) ?_
                                    refine va_get (D := (dC, dI)) (ci := 10) (v := .ref (a 27)) (C := RX9) (T := TX9) (N := 46) hx hb hts in_m_look_X9 hown hK hP 0 rfl rfl 27 (by decide) (hts (.fieldLink RX9 77 "ServiceTreeModel" "member" "[Z") (by decide +kernel)) (fun _ h9 => h9) rfl dX9_look_182 ?_
                                    refine lv_iload hx hb dX9_look_185 (lv_at hl 0 rfl) ?_
                                    refine va_zald (n := 40) (f := F110 27) hx hb hK hP 23 22 rfl rfl (vp_in_nI (n := i106) (by omega) (by decide)) dX9_look_187 ?_
                                    refine lv_topi (fun x123 ex123 => ?_)
                                    refine lv_if_eq (tgt := 207) hx hb dX9_look_188 (by decide) (fun c124 => ?_) (fun c124 => ?_)
                                    · refine lv_iconst (v := 0) hx hb dX9_look_207 (by decide) ?_
                                      refine lv_istore (lv' := [(5, .int 0), (6, .int (nI i106)), (4, .int (nI i43)), (3, .int r36), (0, .ref h), (1, .int p0), (2, .int (nI xv))]) hx hb dX9_look_208 hl (by decide) rfl (fun ls hl => ?_)
                                      refine lv_iinc (v := nI (i106 + 1)) (lv' := [(6, .int (nI (i106 + 1))), (5, .int 0), (4, .int (nI i43)), (3, .int r36), (0, .ref h), (1, .int p0), (2, .int (nI xv))]) hx hb dX9_look_210 hl (k := 1) rfl (nI_add i106 1) (by decide) rfl (fun ls hl => ?_)
                                      refine lv_goto (tgt := 167) hx hb dX9_look_213 (by decide) ?_
                                      exact ih108 (i106 + 1) 0 F110 V111 _ _ _ (by omega) (by omega) (hI.mono (by omega)) hU hV  hP hD hS (lv_sub hl [0, 1, 2, 3, 4, 5, 6] rfl)
                                    · refine lv_aload_n hx hb dX9_look_191 rfl (lv_at hl 4 rfl) ?_
                                      refine lv_iconst (v := 3) hx hb dX9_look_192 (by decide) ?_
                                      refine lv_iload hx hb dX9_look_193 (lv_at hl 2 rfl) ?_
                                      refine lv_iload hx hb dX9_look_195 (lv_at hl 0 rfl) ?_
                                      have hFc := mw_free hD hS hA
                                      refine va_calli (va_runV (As := [.int 3, .int (nI i43), .int (nI i106)]) (rest := []) ⟨hx, hb, hml, hown, hts⟩ (c_m_has l dC dI h a k F110 V111 n (b) 3 i43 i106 H.size hI.1 (by omega) (by omega) (by omega) (by omega)) (cwV 3 hts wc_m_look_m_has_150 rfl rfl rfl (by decide +kernel) ⟨Nat.le_of_ble_eq_true rfl, Nat.le_of_ble_eq_true rfl⟩) ⟨fun a9 U g mk q => by obtain ⟨q0, q1, qP, qK, qD⟩ := q; exact ⟨q0, q1, qP, va_K.moved (u := U) (U := U.calling g mk a9) (Vm.Alike.refl U.vm) qK, qD⟩, va_recv hK hP (ci := 10) (q0 := 0) rfl rfl, fun U hU hW => ⟨rfl, by rw [hU], by rw [hU]; exact hP, va_K.moved hW.alike hK, hD.weaken (fun _ _ _ _ => trivial)⟩⟩ rfl rfl hl.1 rfl (lv_room (Nat.le_of_ble_eq_true rfl)) dX9_look_197 ⟨Nat.le_of_ble_eq_true rfl, Nat.le_of_ble_eq_true rfl⟩) hS (fun q _ h => hFc q h) hFc (fun r125 u t H1 locs ht hvm hw hB hz1 hk1 hS => ?_)
                                      obtain ⟨F126, V127⟩ := u
                                      replace hP := hB.1
                                      rw [ht] at hP
                                      replace hD : va_D A (mW h a k F126 V127) := hB.2.weaken (fun _ q _ h9 => hFc q.1 h9)
                                      clear hB
                                      generalize H1 = H at hP hS ⊢
                                      replace hP : va_P (dC, dI) vwCl (mW h a k F126 V127) H := hP
                                      obtain ⟨hwF, hwV, hw⟩ : F126 = F110 ∧ V127 = V111 ∧ _ := hw
                                      rw [hwF, hwV] at hP hD
                                      have br125 := hw
                                      refine lv_if_eq (tgt := 207) hx hb dX9_look_200 (by decide) (fun c128 => ?_) (fun c128 => ?_)
                                      · refine lv_iconst (v := 0) hx hb dX9_look_207 (by decide) ?_
                                        refine lv_istore (lv' := [(5, .int 0), (6, .int (nI i106)), (4, .int (nI i43)), (3, .int r36), (0, .ref h), (1, .int p0), (2, .int (nI xv))]) hx hb dX9_look_208 hl (by decide) rfl (fun ls hl => ?_)
                                        refine lv_iinc (v := nI (i106 + 1)) (lv' := [(6, .int (nI (i106 + 1))), (5, .int 0), (4, .int (nI i43)), (3, .int r36), (0, .ref h), (1, .int p0), (2, .int (nI xv))]) hx hb dX9_look_210 hl (k := 1) rfl (nI_add i106 1) (by decide) rfl (fun ls hl => ?_)
                                        refine lv_goto (tgt := 167) hx hb dX9_look_213 (by decide) ?_
                                        exact ih108 (i106 + 1) 0 F110 V111 _ _ _ (by omega) (by omega) (hI.mono (by omega)) hU hV  hP hD hS (lv_sub hl [0, 1, 2, 3, 4, 5, 6] rfl)
                                      · refine lv_iconst (v := 1) hx hb dX9_look_203 (by decide) ?_
                                        refine lv_goto (tgt := 208) hx hb dX9_look_204 (by decide) ?_
                                        refine lv_istore (lv' := [(5, .int 1), (6, .int (nI i106)), (4, .int (nI i43)), (3, .int r36), (0, .ref h), (1, .int p0), (2, .int (nI xv))]) hx hb dX9_look_208 hl (by decide) rfl (fun ls hl => ?_)
                                        refine lv_iinc (v := nI (i106 + 1)) (lv' := [(6, .int (nI (i106 + 1))), (5, .int 1), (4, .int (nI i43)), (3, .int r36), (0, .ref h), (1, .int p0), (2, .int (nI xv))]) hx hb dX9_look_210 hl (k := 1) rfl (nI_add i106 1) (by decide) rfl (fun ls hl => ?_)
                                        refine lv_goto (tgt := 167) hx hb dX9_look_213 (by decide) ?_
                                        exact ih108 (i106 + 1) 1 F110 V111 _ _ _ (by omega) (by omega) (hI.mono (by omega)) hU hV  hP hD hS (lv_sub hl [0, 1, 2, 3, 4, 5, 6] rfl)
                            exact lp109 (n + 1) 0 0 F47 V48 _ _ _ (by omega) (by omega) (hI.mono (by omega)) hU hV  hP hD hS hl
                          · refine lv_iconst (v := 1) hx hb dX9_look_157 (by decide) ?_
                            refine lv_goto (tgt := 162) hx hb dX9_look_158 (by decide) ?_
                            refine lv_istore (lv' := [(5, .int 1), (4, .int (nI i43)), (3, .int r36), (0, .ref h), (1, .int p0), (2, .int (nI xv))]) hx hb dX9_look_162 hl (by decide) rfl (fun ls hl => ?_)
                            refine lv_iconst (v := 0) hx hb dX9_look_164 (by decide) ?_
                            refine lv_istore (lv' := [(6, .int 0), (5, .int 1), (4, .int (nI i43)), (3, .int r36), (0, .ref h), (1, .int p0), (2, .int (nI xv))]) hx hb dX9_look_165 hl (by decide) rfl (fun ls hl => ?_)
                            have lp132 : ∀ (fu130 i129 : Nat) (y135 : Int32) (F133 : Nat → Nat → Int32) (V134 : Nat → Int32) (H : Heap) (locs : List Loc) (ls : Array Slot), n < i129 + fu130 → i129 ≤ n → StM n (b) F V F133 V134 → (∀ j : Nat, j ∉ ([27, 28, 29, 30, 31, 32] : List Nat) → F133 j = F j) → (∀ j : Nat, j ∉ ([33] : List Nat) → V134 j = V j) → va_P (dC, dI) vwCl (mW h a k F133 V134) H → va_D A (mW h a k F133 V134) → va_S A s.heap H locs → lv_has ls 7 [(6, .int (nI i129)), (5, .int y135), (4, .int (nI i43)), (3, .int r36), (0, .ref h), (1, .int p0), (2, .int (nI xv))] → W p l e (headSpec wq_m_look rm_m_look).room s m ([.ref h, .int p0, .int (nI xv)] : List Value).toArray below meth c H locs 0 0 Q0 (F0 m 167 ls []) := by
                              intro fu130
                              induction fu130 with
                              | zero =>
                                intro i129 y135 F133 V134 H locs ls hf hi
                                exact absurd hf (by omega)
                              | succ fu130 ih131 =>
                                intro i129 y135 F133 V134 H locs ls hfi129 hii129 hI hU hV hP hD hS hl
                                refine lv_iload hx hb dX9_look_167 (lv_at hl 0 rfl) ?_
                                refine lv_aload_n hx hb dX9_look_169 rfl (lv_at hl 4 rfl) ?_
                                refine va_get (D := (dC, dI)) (ci := 10) (v := .int (V134 21)) (C := RX9) (T := TX9) (N := 46) hx hb hts in_m_look_X9 hown hK hP 0 rfl rfl 21 (by decide) (hts (.fieldLink RX9 126 "ServiceTreeModel" "services" "I") (by decide +kernel)) (fun _ h9 => h9) rfl dX9_look_170 ?_
                                refine p1_topr (v := .int (nI n)) (congrArg Value.int hI.1.2.1) ?_
                                refine lv_icmp_ge (tgt := 216) hx hb dX9_look_173 (by decide) (fun c136 => ?_) (fun c136 => ?_)
                                · replace c136 : n ≤ i129 := (nI_leI (a := n) (b := i129) (by omega) (by omega)).mp c136
                                  refine lv_aload_n hx hb dX9_look_216 rfl (lv_at hl 4 rfl) ?_
                                  refine va_get (D := (dC, dI)) (ci := 10) (v := .ref (a 30)) (C := RX9) (T := TX9) (N := 46) hx hb hts in_m_look_X9 hown hK hP 0 rfl rfl 30 (by decide) (hts (.fieldLink RX9 86 "ServiceTreeModel" "newJob" "[I") (by decide +kernel)) (fun _ h9 => h9) rfl dX9_look_217 ?_
                                  refine lv_iload hx hb dX9_look_220 (lv_at hl 2 rfl) ?_
                                  refine lv_iload hx hb dX9_look_222 (lv_at hl 1 rfl) ?_
                                  refine lv_if_eq (tgt := 240) hx hb dX9_look_224 (by decide) (fun c137 => ?_) (fun c137 => ?_)
                                  · refine lv_iconst (v := 0) hx hb dX9_look_240 (by decide) ?_
                                    refine va_iast (n := 40) (f := F133 30) hx hb hK hP hD hS 26 25 rfl rfl (vp_in_nI (n := i43) (by omega) (by decide)) dX9_look_241 (fun H locs hP hD hS => ?_)
                                    rw [mW_set_30] at hP hD
                                    obtain ⟨F138, eF138⟩ : ∃ f9 : Nat → Nat → Int32, f9 = va_up F133 30 (upd (F133 30) (nI i43).toNatClampNeg 0) := ⟨_, rfl⟩
                                    rw [← eF138] at hP hD
                                    replace hI : StM n (b) F V F138 V134 := ⟨by rw [eF138]; exact hI.1.setF (by decide), trivial⟩
                                    replace hU : ∀ j : Nat, j ∉ ([27, 28, 29, 30, 31, 32] : List Nat) → F138 j = F j := by rw [eF138]; exact mw_up (by decide) hU
                                    refine lv_iinc (v := nI (i43 + 1)) (lv' := [(4, .int (nI (i43 + 1))), (6, .int (nI i129)), (5, .int y135), (3, .int r36), (0, .ref h), (1, .int p0), (2, .int (nI xv))]) hx hb dX9_look_242 hl (k := 2) rfl (nI_add i43 1) (by decide) rfl (fun ls hl => ?_)
                                    refine lv_goto (tgt := 133) hx hb dX9_look_245 (by decide) ?_
                                    exact ih45 (i43 + 1)  F138 V134 _ _ _ (by omega) (by omega) (hI.mono (by omega)) hU hV  hP hD hS (lv_sub hl [0, 3, 4, 5, 6] rfl)
                                  · refine lv_aload_n hx hb dX9_look_227 rfl (lv_at hl 4 rfl) ?_
                                    refine lv_iload hx hb dX9_look_228 (lv_at hl 2 rfl) ?_
                                    have hFc := mw_free hD hS hA
                                    refine va_calli (va_runV (As := [.int (nI i43)]) (rest := [.int (nI i43), .ref (a 30)]) ⟨hx, hb, hml, hown, hts⟩ (c_m_isUpOrWaiting l dC dI h a k F133 V134 n (b) i43 H.size hI.1 (by omega) (by omega)) (cwV 1 hts wc_m_look_m_isUpOrWaiting_171 rfl rfl rfl (by decide +kernel) ⟨Nat.le_of_ble_eq_true rfl, Nat.le_of_ble_eq_true rfl⟩) ⟨fun a9 U g mk q => by obtain ⟨q0, q1, qP, qK, qD⟩ := q; exact ⟨q0, q1, qP, va_K.moved (u := U) (U := U.calling g mk a9) (Vm.Alike.refl U.vm) qK, qD⟩, va_recv hK hP (ci := 10) (q0 := 0) rfl rfl, fun U hU hW => ⟨rfl, by rw [hU], by rw [hU]; exact hP, va_K.moved hW.alike hK, hD.weaken (fun _ _ _ _ => trivial)⟩⟩ rfl rfl hl.1 rfl (lv_room (Nat.le_of_ble_eq_true rfl)) dX9_look_230 ⟨Nat.le_of_ble_eq_true rfl, Nat.le_of_ble_eq_true rfl⟩) hS (fun q _ h => hFc q h) hFc (fun r139 u t H1 locs ht hvm hw hB hz1 hk1 hS => ?_)
                                    obtain ⟨F140, V141⟩ := u
                                    replace hP := hB.1
                                    rw [ht] at hP
                                    replace hD : va_D A (mW h a k F140 V141) := hB.2.weaken (fun _ q _ h9 => hFc q.1 h9)
                                    clear hB
                                    generalize H1 = H at hP hS ⊢
                                    replace hP : va_P (dC, dI) vwCl (mW h a k F140 V141) H := hP
                                    obtain ⟨hwF, hwV, hw⟩ : F140 = F133 ∧ V141 = V134 ∧ _ := hw
                                    rw [hwF, hwV] at hP hD
                                    refine lv_if_eq (tgt := 240) hx hb dX9_look_233 (by decide) (fun c142 => ?_) (fun c142 => ?_)
                                    · refine lv_iconst (v := 0) hx hb dX9_look_240 (by decide) ?_
                                      refine va_iast (n := 40) (f := F133 30) hx hb hK hP hD hS 26 25 rfl rfl (vp_in_nI (n := i43) (by omega) (by decide)) dX9_look_241 (fun H locs hP hD hS => ?_)
                                      rw [mW_set_30] at hP hD
                                      obtain ⟨F143, eF143⟩ : ∃ f9 : Nat → Nat → Int32, f9 = va_up F133 30 (upd (F133 30) (nI i43).toNatClampNeg 0) := ⟨_, rfl⟩
                                      rw [← eF143] at hP hD
                                      replace hI : StM n (b) F V F143 V134 := ⟨by rw [eF143]; exact hI.1.setF (by decide), trivial⟩
                                      replace hU : ∀ j : Nat, j ∉ ([27, 28, 29, 30, 31, 32] : List Nat) → F143 j = F j := by rw [eF143]; exact mw_up (by decide) hU
                                      refine lv_iinc (v := nI (i43 + 1)) (lv' := [(4, .int (nI (i43 + 1))), (6, .int (nI i129)), (5, .int y135), (3, .int r36), (0, .ref h), (1, .int p0), (2, .int (nI xv))]) hx hb dX9_look_242 hl (k := 2) rfl (nI_add i43 1) (by decide) rfl (fun ls hl => ?_)
                                      refine lv_goto (tgt := 133) hx hb dX9_look_245 (by decide) ?_
                                      exact ih45 (i43 + 1)  F143 V134 _ _ _ (by omega) (by omega) (hI.mono (by omega)) hU hV  hP hD hS (lv_sub hl [0, 3, 4, 5, 6] rfl)
                                    · refine lv_iconst (v := 2) hx hb dX9_look_236 (by decide) ?_
                                      refine lv_goto (tgt := 241) hx hb dX9_look_237 (by decide) ?_
                                      refine va_iast (n := 40) (f := F133 30) hx hb hK hP hD hS 26 25 rfl rfl (vp_in_nI (n := i43) (by omega) (by decide)) dX9_look_241 (fun H locs hP hD hS => ?_)
                                      rw [mW_set_30] at hP hD
                                      obtain ⟨F144, eF144⟩ : ∃ f9 : Nat → Nat → Int32, f9 = va_up F133 30 (upd (F133 30) (nI i43).toNatClampNeg 2) := ⟨_, rfl⟩
                                      rw [← eF144] at hP hD
                                      replace hI : StM n (b) F V F144 V134 := ⟨by rw [eF144]; exact hI.1.setF (by decide), trivial⟩
                                      replace hU : ∀ j : Nat, j ∉ ([27, 28, 29, 30, 31, 32] : List Nat) → F144 j = F j := by rw [eF144]; exact mw_up (by decide) hU
                                      refine lv_iinc (v := nI (i43 + 1)) (lv' := [(4, .int (nI (i43 + 1))), (6, .int (nI i129)), (5, .int y135), (3, .int r36), (0, .ref h), (1, .int p0), (2, .int (nI xv))]) hx hb dX9_look_242 hl (k := 2) rfl (nI_add i43 1) (by decide) rfl (fun ls hl => ?_)
                                      refine lv_goto (tgt := 133) hx hb dX9_look_245 (by decide) ?_
                                      exact ih45 (i43 + 1)  F144 V134 _ _ _ (by omega) (by omega) (hI.mono (by omega)) hU hV  hP hD hS (lv_sub hl [0, 3, 4, 5, 6] rfl)
                                · replace c136 : ¬ (n ≤ i129) := fun q9 => c136 ((nI_leI (a := n) (b := i129) (by omega) (by omega)).mpr q9)
                                  refine lv_iload hx hb dX9_look_176 (lv_at hl 1 rfl) ?_
                                  refine lv_if_ne (tgt := 203) hx hb dX9_look_178 (by decide) (fun c145 => ?_) (fun c145 => ?_)
                                  · refine lv_iconst (v := 1) hx hb dX9_look_203 (by decide) ?_
                                    refine lv_goto (tgt := 208) hx hb dX9_look_204 (by decide) ?_
                                    refine lv_istore (lv' := [(5, .int 1), (6, .int (nI i129)), (4, .int (nI i43)), (3, .int r36), (0, .ref h), (1, .int p0), (2, .int (nI xv))]) hx hb dX9_look_208 hl (by decide) rfl (fun ls hl => ?_)
                                    refine lv_iinc (v := nI (i129 + 1)) (lv' := [(6, .int (nI (i129 + 1))), (5, .int 1), (4, .int (nI i43)), (3, .int r36), (0, .ref h), (1, .int p0), (2, .int (nI xv))]) hx hb dX9_look_210 hl (k := 1) rfl (nI_add i129 1) (by decide) rfl (fun ls hl => ?_)
                                    refine lv_goto (tgt := 167) hx hb dX9_look_213 (by decide) ?_
                                    exact ih131 (i129 + 1) 1 F133 V134 _ _ _ (by omega) (by omega) (hI.mono (by omega)) hU hV  hP hD hS (lv_sub hl [0, 1, 2, 3, 4, 5, 6] rfl)
                                  · refine lv_aload_n hx hb dX9_look_181 rfl (lv_at hl 4 rfl) ?_
                                    refine va_get (D := (dC, dI)) (ci := 10) (v := .ref (a 27)) (C := RX9) (T := TX9) (N := 46) hx hb hts in_m_look_X9 hown hK hP 0 rfl rfl 27 (by decide) (hts (.fieldLink RX9 77 "ServiceTreeModel" "member" "[Z") (by decide +kernel)) (fun _ h9 => h9) rfl dX9_look_182 ?_
                                    refine lv_iload hx hb dX9_look_185 (lv_at hl 0 rfl) ?_
                                    refine va_zald (n := 40) (f := F133 27) hx hb hK hP 23 22 rfl rfl (vp_in_nI (n := i129) (by omega) (by decide)) dX9_look_187 ?_
                                    refine lv_topi (fun x146 ex146 => ?_)
                                    refine lv_if_eq (tgt := 207) hx hb dX9_look_188 (by decide) (fun c147 => ?_) (fun c147 => ?_)
                                    · refine lv_iconst (v := 0) hx hb dX9_look_207 (by decide) ?_
                                      refine lv_istore (lv' := [(5, .int 0), (6, .int (nI i129)), (4, .int (nI i43)), (3, .int r36), (0, .ref h), (1, .int p0), (2, .int (nI xv))]) hx hb dX9_look_208 hl (by decide) rfl (fun ls hl => ?_)
                                      refine lv_iinc (v := nI (i129 + 1)) (lv' := [(6, .int (nI (i129 + 1))), (5, .int 0), (4, .int (nI i43)), (3, .int r36), (0, .ref h), (1, .int p0), (2, .int (nI xv))]) hx hb dX9_look_210 hl (k := 1) rfl (nI_add i129 1) (by decide) rfl (fun ls hl => ?_)
                                      refine lv_goto (tgt := 167) hx hb dX9_look_213 (by decide) ?_
                                      exact ih131 (i129 + 1) 0 F133 V134 _ _ _ (by omega) (by omega) (hI.mono (by omega)) hU hV  hP hD hS (lv_sub hl [0, 1, 2, 3, 4, 5, 6] rfl)
                                    · refine lv_aload_n hx hb dX9_look_191 rfl (lv_at hl 4 rfl) ?_
                                      refine lv_iconst (v := 3) hx hb dX9_look_192 (by decide) ?_
                                      refine lv_iload hx hb dX9_look_193 (lv_at hl 2 rfl) ?_
                                      refine lv_iload hx hb dX9_look_195 (lv_at hl 0 rfl) ?_
                                      have hFc := mw_free hD hS hA
                                      refine va_calli (va_runV (As := [.int 3, .int (nI i43), .int (nI i129)]) (rest := []) ⟨hx, hb, hml, hown, hts⟩ (c_m_has l dC dI h a k F133 V134 n (b) 3 i43 i129 H.size hI.1 (by omega) (by omega) (by omega) (by omega)) (cwV 3 hts wc_m_look_m_has_150 rfl rfl rfl (by decide +kernel) ⟨Nat.le_of_ble_eq_true rfl, Nat.le_of_ble_eq_true rfl⟩) ⟨fun a9 U g mk q => by obtain ⟨q0, q1, qP, qK, qD⟩ := q; exact ⟨q0, q1, qP, va_K.moved (u := U) (U := U.calling g mk a9) (Vm.Alike.refl U.vm) qK, qD⟩, va_recv hK hP (ci := 10) (q0 := 0) rfl rfl, fun U hU hW => ⟨rfl, by rw [hU], by rw [hU]; exact hP, va_K.moved hW.alike hK, hD.weaken (fun _ _ _ _ => trivial)⟩⟩ rfl rfl hl.1 rfl (lv_room (Nat.le_of_ble_eq_true rfl)) dX9_look_197 ⟨Nat.le_of_ble_eq_true rfl, Nat.le_of_ble_eq_true rfl⟩) hS (fun q _ h => hFc q h) hFc (fun r148 u t H1 locs ht hvm hw hB hz1 hk1 hS => ?_)
                                      obtain ⟨F149, V150⟩ := u
                                      replace hP := hB.1
                                      rw [ht] at hP
                                      replace hD : va_D A (mW h a k F149 V150) := hB.2.weaken (fun _ q _ h9 => hFc q.1 h9)
                                      clear hB
                                      generalize H1 = H at hP hS ⊢
                                      replace hP : va_P (dC, dI) vwCl (mW h a k F149 V150) H := hP
                                      obtain ⟨hwF, hwV, hw⟩ : F149 = F133 ∧ V150 = V134 ∧ _ := hw
                                      rw [hwF, hwV] at hP hD
                                      have br148 := hw
                                      refine lv_if_eq (tgt := 207) hx hb dX9_look_200 (by decide) (fun c151 => ?_) (fun c151 => ?_)
                                      · refine lv_iconst (v := 0) hx hb dX9_look_207 (by decide) ?_
                                        refine lv_istore (lv' := [(5, .int 0), (6, .int (nI i129)), (4, .int (nI i43)), (3, .int r36), (0, .ref h), (1, .int p0), (2, .int (nI xv))]) hx hb dX9_look_208 hl (by decide) rfl (fun ls hl => ?_)
                                        refine lv_iinc (v := nI (i129 + 1)) (lv' := [(6, .int (nI (i129 + 1))), (5, .int 0), (4, .int (nI i43)), (3, .int r36), (0, .ref h), (1, .int p0), (2, .int (nI xv))]) hx hb dX9_look_210 hl (k := 1) rfl (nI_add i129 1) (by decide) rfl (fun ls hl => ?_)
                                        refine lv_goto (tgt := 167) hx hb dX9_look_213 (by decide) ?_
                                        exact ih131 (i129 + 1) 0 F133 V134 _ _ _ (by omega) (by omega) (hI.mono (by omega)) hU hV  hP hD hS (lv_sub hl [0, 1, 2, 3, 4, 5, 6] rfl)
                                      · refine lv_iconst (v := 1) hx hb dX9_look_203 (by decide) ?_
                                        refine lv_goto (tgt := 208) hx hb dX9_look_204 (by decide) ?_
                                        refine lv_istore (lv' := [(5, .int 1), (6, .int (nI i129)), (4, .int (nI i43)), (3, .int r36), (0, .ref h), (1, .int p0), (2, .int (nI xv))]) hx hb dX9_look_208 hl (by decide) rfl (fun ls hl => ?_)
                                        refine lv_iinc (v := nI (i129 + 1)) (lv' := [(6, .int (nI (i129 + 1))), (5, .int 1), (4, .int (nI i43)), (3, .int r36), (0, .ref h), (1, .int p0), (2, .int (nI xv))]) hx hb dX9_look_210 hl (k := 1) rfl (nI_add i129 1) (by decide) rfl (fun ls hl => ?_)
                                        refine lv_goto (tgt := 167) hx hb dX9_look_213 (by decide) ?_
                                        exact ih131 (i129 + 1) 1 F133 V134 _ _ _ (by omega) (by omega) (hI.mono (by omega)) hU hV  hP hD hS (lv_sub hl [0, 1, 2, 3, 4, 5, 6] rfl)
                            exact lp132 (n + 1) 0 1 F47 V48 _ _ _ (by omega) (by omega) (hI.mono (by omega)) hU hV  hP hD hS hl
                  exact lp46 (n + 1) 0  F41 V42 _ _ _ (by omega) (by omega) (hI.mono (by omega)) hU hV  hP hD hS hl
                · refine lv_aload_n hx hb dX9_look_118 rfl (lv_at hl 1 rfl) ?_
                  refine lv_iload_n hx hb dX9_look_119 rfl (lv_at hl 0 rfl) ?_
                  refine va_put (D := (dC, dI)) (ci := 10) (fs := mF a V38) (v := .int r36) (ty := .int) (C := RX9) (T := TX9) (N := 46) hx hb hts in_m_look_X9 tyX9 tyX9_ok nmX9 hown hK hP hD hS 0 rfl rfl 33 (by decide) (hts (.fieldLink RX9 197 "ServiceTreeModel" "ring" "I") (by decide +kernel)) (fun _ h9 => h9) rfl (by decide +kernel) rfl rfl (Nat.le_of_ble_eq_true rfl) dX9_look_120 (fun H locs hP hD hS => ?_)
                  rw [mW_put_33] at hP hD
                  obtain ⟨V152, eV152⟩ : ∃ f9 : Nat → Int32, f9 = va_up V38 33 r36 := ⟨_, rfl⟩
                  rw [← eV152] at hP hD
                  replace hI : StM n (b) F V F37 V152 := ⟨by rw [eV152]; exact hI.1.setV (by decide), trivial⟩
                  replace hV : ∀ j : Nat, j ∉ ([33] : List Nat) → V152 j = V j := by rw [eV152]; exact mw_up (by decide) hV
                  refine lv_bipush (v := (-5)) hx hb dX9_look_123 (by decide) ?_
                  rw [hQ]
                  exact W.iret (v := (-5)) hx hb hr (fun t ht hW => ⟨⟨(-5), (F37, V152), rfl, ⟨hI.mono (by omega), hU, hV, trivial⟩, by rw [ht]; exact hP, hD⟩, hS.F ht⟩) hS.2.2 dX9_look_125
              · refine lv_bipush (v := (-4)) hx hb dX9_look_102 (by decide) ?_
                rw [hQ]
                exact W.iret (v := (-4)) hx hb hr (fun t ht hW => ⟨⟨(-4), (F30, V31), rfl, ⟨hI.mono (by omega), hU, hV, trivial⟩, by rw [ht]; exact hP, hD⟩, hS.F ht⟩) hS.2.2 dX9_look_104
            · refine lv_aload_n hx hb dX9_look_59 rfl (lv_at hl 1 rfl) ?_
              refine va_get (D := (dC, dI)) (ci := 10) (v := .ref (a 30)) (C := RX9) (T := TX9) (N := 46) hx hb hts in_m_look_X9 hown hK hP 0 rfl rfl 30 (by decide) (hts (.fieldLink RX9 86 "ServiceTreeModel" "newJob" "[I") (by decide +kernel)) (fun _ h9 => h9) rfl dX9_look_60 ?_
              refine lv_iload_n hx hb dX9_look_63 rfl (lv_at hl 3 rfl) ?_
              refine lv_aload_n hx hb dX9_look_64 rfl (lv_at hl 1 rfl) ?_
              refine lv_iload_n hx hb dX9_look_65 rfl (lv_at hl 3 rfl) ?_
              have hFc := mw_free hD hS hA
              refine va_calli (va_runV (As := [.int (nI xv)]) (rest := [.int (nI xv), .ref (a 30)]) ⟨hx, hb, hml, hown, hts⟩ (c_m_isUpOrWaiting l dC dI h a k F17 V18 n (b) xv H.size hI.1 (by omega) (by omega)) (cwV 1 hts wc_m_look_m_isUpOrWaiting_171 rfl rfl rfl (by decide +kernel) ⟨Nat.le_of_ble_eq_true rfl, Nat.le_of_ble_eq_true rfl⟩) ⟨fun a9 U g mk q => by obtain ⟨q0, q1, qP, qK, qD⟩ := q; exact ⟨q0, q1, qP, va_K.moved (u := U) (U := U.calling g mk a9) (Vm.Alike.refl U.vm) qK, qD⟩, va_recv hK hP (ci := 10) (q0 := 0) rfl rfl, fun U hU hW => ⟨rfl, by rw [hU], by rw [hU]; exact hP, va_K.moved hW.alike hK, hD.weaken (fun _ _ _ _ => trivial)⟩⟩ rfl rfl hl.1 rfl (lv_room (Nat.le_of_ble_eq_true rfl)) dX9_look_66 ⟨Nat.le_of_ble_eq_true rfl, Nat.le_of_ble_eq_true rfl⟩) hS (fun q _ h => hFc q h) hFc (fun r153 u t H1 locs ht hvm hw hB hz1 hk1 hS => ?_)
              obtain ⟨F154, V155⟩ := u
              replace hP := hB.1
              rw [ht] at hP
              replace hD : va_D A (mW h a k F154 V155) := hB.2.weaken (fun _ q _ h9 => hFc q.1 h9)
              clear hB
              generalize H1 = H at hP hS ⊢
              replace hP : va_P (dC, dI) vwCl (mW h a k F154 V155) H := hP
              obtain ⟨hwF, hwV, hw⟩ : F154 = F17 ∧ V155 = V18 ∧ _ := hw
              rw [hwF, hwV] at hP hD
              refine lv_if_eq (tgt := 76) hx hb dX9_look_69 (by decide) (fun c156 => ?_) (fun c156 => ?_)
              · refine lv_iconst (v := 0) hx hb dX9_look_76 (by decide) ?_
                refine va_iast (n := 40) (f := F17 30) hx hb hK hP hD hS 26 25 rfl rfl (vp_in_nI (n := xv) (by omega) (by decide)) dX9_look_77 (fun H locs hP hD hS => ?_)
                rw [mW_set_30] at hP hD
                obtain ⟨F157, eF157⟩ : ∃ f9 : Nat → Nat → Int32, f9 = va_up F17 30 (upd (F17 30) (nI xv).toNatClampNeg 0) := ⟨_, rfl⟩
                rw [← eF157] at hP hD
                replace hI : StM n (b) F V F157 V18 := ⟨by rw [eF157]; exact hI.1.setF (by decide), trivial⟩
                replace hU : ∀ j : Nat, j ∉ ([27, 28, 29, 30, 31, 32] : List Nat) → F157 j = F j := by rw [eF157]; exact mw_up (by decide) hU
                refine lv_aload_n hx hb dX9_look_78 rfl (lv_at hl 1 rfl) ?_
                refine lv_iload_n hx hb dX9_look_79 rfl (lv_at hl 3 rfl) ?_
                have hFc := mw_free hD hS hA
                refine va_callv (va_runV (As := [.int (nI xv)]) (rest := []) ⟨hx, hb, hml, hown, hts⟩ (c_m_addNeeding l dC dI h a k F157 V18 n (b) (nI xv) H.size hI.1 (by omega) ) (cwV 1 hts wc_m_look_m_addNeeding_190 rfl rfl rfl (by decide +kernel) ⟨Nat.le_of_ble_eq_true rfl, Nat.le_of_ble_eq_true rfl⟩) ⟨fun a9 U g mk q => by obtain ⟨q0, q1, qP, qK, qD⟩ := q; exact ⟨q0, q1, qP, va_K.moved (u := U) (U := U.calling g mk a9) (Vm.Alike.refl U.vm) qK, qD⟩, va_recv hK hP (ci := 10) (q0 := 0) rfl rfl, fun U hU hW => ⟨rfl, by rw [hU], by rw [hU]; exact hP, va_K.moved hW.alike hK, hD.weaken (fun _ _ _ _ => trivial)⟩⟩ rfl rfl hl.1 rfl (lv_room (Nat.le_of_ble_eq_true rfl)) dX9_look_80 ⟨Nat.le_of_ble_eq_true rfl, Nat.le_of_ble_eq_true rfl⟩) hS (fun q _ h => hFc q h) hFc (fun u t H1 locs ht hvm hw hB hz1 hk1 hS => ?_)
                obtain ⟨F159, V160⟩ := u
                replace hP := hB.1
                rw [ht] at hP
                replace hD : va_D A (mW h a k F159 V160) := hB.2.weaken (fun _ q _ h9 => hFc q.1 h9)
                clear hB
                generalize H1 = H at hP hS ⊢
                replace hP : va_P (dC, dI) vwCl (mW h a k F159 V160) H := hP
                obtain ⟨hwI, hwU, hwV, hw⟩ := hw
                replace hU : ∀ j : Nat, j ∉ ([27, 28, 29, 30, 31, 32] : List Nat) → F159 j = F j := mw_tr (by decide) hwU hU
                replace hV : ∀ j : Nat, j ∉ ([33] : List Nat) → V160 j = V j := mw_tr (by decide) hwV hV
                replace hI : StM n (b + 0) F V F159 V160 := hI.trans hwI
                replace hI : StM n (b) F V F159 V160 := hI
                refine lv_goto (tgt := 352) hx hb dX9_look_83 (by decide) ?_
                exact jn22 F159 V160 _ _ _ (hI.mono (by omega)) hU hV hP hD hS (lv_sub hl [1, 2, 3] rfl)
              · refine lv_iconst (v := 2) hx hb dX9_look_72 (by decide) ?_
                refine lv_goto (tgt := 77) hx hb dX9_look_73 (by decide) ?_
                refine va_iast (n := 40) (f := F17 30) hx hb hK hP hD hS 26 25 rfl rfl (vp_in_nI (n := xv) (by omega) (by decide)) dX9_look_77 (fun H locs hP hD hS => ?_)
                rw [mW_set_30] at hP hD
                obtain ⟨F161, eF161⟩ : ∃ f9 : Nat → Nat → Int32, f9 = va_up F17 30 (upd (F17 30) (nI xv).toNatClampNeg 2) := ⟨_, rfl⟩
                rw [← eF161] at hP hD
                replace hI : StM n (b) F V F161 V18 := ⟨by rw [eF161]; exact hI.1.setF (by decide), trivial⟩
                replace hU : ∀ j : Nat, j ∉ ([27, 28, 29, 30, 31, 32] : List Nat) → F161 j = F j := by rw [eF161]; exact mw_up (by decide) hU
                refine lv_aload_n hx hb dX9_look_78 rfl (lv_at hl 1 rfl) ?_
                refine lv_iload_n hx hb dX9_look_79 rfl (lv_at hl 3 rfl) ?_
                have hFc := mw_free hD hS hA
                refine va_callv (va_runV (As := [.int (nI xv)]) (rest := []) ⟨hx, hb, hml, hown, hts⟩ (c_m_addNeeding l dC dI h a k F161 V18 n (b) (nI xv) H.size hI.1 (by omega) ) (cwV 1 hts wc_m_look_m_addNeeding_190 rfl rfl rfl (by decide +kernel) ⟨Nat.le_of_ble_eq_true rfl, Nat.le_of_ble_eq_true rfl⟩) ⟨fun a9 U g mk q => by obtain ⟨q0, q1, qP, qK, qD⟩ := q; exact ⟨q0, q1, qP, va_K.moved (u := U) (U := U.calling g mk a9) (Vm.Alike.refl U.vm) qK, qD⟩, va_recv hK hP (ci := 10) (q0 := 0) rfl rfl, fun U hU hW => ⟨rfl, by rw [hU], by rw [hU]; exact hP, va_K.moved hW.alike hK, hD.weaken (fun _ _ _ _ => trivial)⟩⟩ rfl rfl hl.1 rfl (lv_room (Nat.le_of_ble_eq_true rfl)) dX9_look_80 ⟨Nat.le_of_ble_eq_true rfl, Nat.le_of_ble_eq_true rfl⟩) hS (fun q _ h => hFc q h) hFc (fun u t H1 locs ht hvm hw hB hz1 hk1 hS => ?_)
                obtain ⟨F163, V164⟩ := u
                replace hP := hB.1
                rw [ht] at hP
                replace hD : va_D A (mW h a k F163 V164) := hB.2.weaken (fun _ q _ h9 => hFc q.1 h9)
                clear hB
                generalize H1 = H at hP hS ⊢
                replace hP : va_P (dC, dI) vwCl (mW h a k F163 V164) H := hP
                obtain ⟨hwI, hwU, hwV, hw⟩ := hw
                replace hU : ∀ j : Nat, j ∉ ([27, 28, 29, 30, 31, 32] : List Nat) → F163 j = F j := mw_tr (by decide) hwU hU
                replace hV : ∀ j : Nat, j ∉ ([33] : List Nat) → V164 j = V j := mw_tr (by decide) hwV hV
                replace hI : StM n (b + 0) F V F163 V164 := hI.trans hwI
                replace hI : StM n (b) F V F163 V164 := hI
                refine lv_goto (tgt := 352) hx hb dX9_look_83 (by decide) ?_
                exact jn22 F163 V164 _ _ _ (hI.mono (by omega)) hU hV hP hD hS (lv_sub hl [1, 2, 3] rfl)
          · replace c19 : ¬ (n ≤ i13) := fun q9 => c19 ((nI_leI (a := n) (b := i13) (by omega) (by omega)).mpr q9)
            refine lv_aload_n hx hb dX9_look_34 rfl (lv_at hl 1 rfl) ?_
            refine va_get (D := (dC, dI)) (ci := 10) (v := .ref (a 30)) (C := RX9) (T := TX9) (N := 46) hx hb hts in_m_look_X9 hown hK hP 0 rfl rfl 30 (by decide) (hts (.fieldLink RX9 86 "ServiceTreeModel" "newJob" "[I") (by decide +kernel)) (fun _ h9 => h9) rfl dX9_look_35 ?_
            refine lv_iload_n hx hb dX9_look_38 rfl (lv_at hl 0 rfl) ?_
            refine lv_iconst (v := 0) hx hb dX9_look_39 (by decide) ?_
            refine va_iast (n := 40) (f := F17 30) hx hb hK hP hD hS 26 25 rfl rfl (vp_in_nI (n := i13) (by omega) (by decide)) dX9_look_40 (fun H locs hP hD hS => ?_)
            rw [mW_set_30] at hP hD
            obtain ⟨F165, eF165⟩ : ∃ f9 : Nat → Nat → Int32, f9 = va_up F17 30 (upd (F17 30) (nI i13).toNatClampNeg 0) := ⟨_, rfl⟩
            rw [← eF165] at hP hD
            replace hI : StM n (b) F V F165 V18 := ⟨by rw [eF165]; exact hI.1.setF (by decide), trivial⟩
            replace hU : ∀ j : Nat, j ∉ ([27, 28, 29, 30, 31, 32] : List Nat) → F165 j = F j := by rw [eF165]; exact mw_up (by decide) hU
            refine lv_aload_n hx hb dX9_look_41 rfl (lv_at hl 1 rfl) ?_
            refine va_get (D := (dC, dI)) (ci := 10) (v := .ref (a 27)) (C := RX9) (T := TX9) (N := 46) hx hb hts in_m_look_X9 hown hK hP 0 rfl rfl 27 (by decide) (hts (.fieldLink RX9 77 "ServiceTreeModel" "member" "[Z") (by decide +kernel)) (fun _ h9 => h9) rfl dX9_look_42 ?_
            refine lv_iload_n hx hb dX9_look_45 rfl (lv_at hl 0 rfl) ?_
            refine lv_iconst (v := 0) hx hb dX9_look_46 (by decide) ?_
            refine va_zast (n := 40) (f := F165 27) hx hb hK hP hD hS 23 22 rfl rfl (vp_in_nI (n := i13) (by omega) (by decide)) dX9_look_47 (fun H locs hP hD hS => ?_)
            rw [mW_set_27] at hP hD
            obtain ⟨F166, eF166⟩ : ∃ f9 : Nat → Nat → Int32, f9 = va_up F165 27 (upd (F165 27) (nI i13).toNatClampNeg (vp_nar .boolean 0)) := ⟨_, rfl⟩
            rw [← eF166] at hP hD
            replace hI : StM n (b) F V F166 V18 := ⟨by rw [eF166]; exact hI.1.setF (by decide), trivial⟩
            replace hU : ∀ j : Nat, j ∉ ([27, 28, 29, 30, 31, 32] : List Nat) → F166 j = F j := by rw [eF166]; exact mw_up (by decide) hU
            refine lv_iinc (v := nI (i13 + 1)) (lv' := [(3, .int (nI (i13 + 1))), (0, .ref h), (1, .int p0), (2, .int (nI xv))]) hx hb dX9_look_48 hl (k := 0) rfl (nI_add i13 1) (by decide) rfl (fun ls hl => ?_)
            refine lv_goto (tgt := 26) hx hb dX9_look_51 (by decide) ?_
            exact ih15 (i13 + 1)  F166 V18 _ _ _ (by omega) (by omega) (hI.mono (by omega)) hU hV  hP hD hS (lv_sub hl [0, 1, 2, 3] rfl)
      exact lp16 (n + 1) 0  F V _ _ _ (by omega) (by omega) (hI.mono (by omega)) hU hV  hP hD hS hl
    · refine lv_bipush (v := (-3)) hx hb dX9_look_21 (by decide) ?_
      rw [hQ]
      exact W.iret (v := (-3)) hx hb hr (fun t ht hW => ⟨⟨(-3), (F, V), rfl, ⟨hI.mono (by omega), hU, hV, trivial⟩, by rw [ht]; exact hP, hD⟩, hS.F ht⟩) hS.2.2 dX9_look_23
def wq_m_order : List Cond := [.code yX9_order cX9_order 5 (some .int), .fieldLink RX9 126 "ServiceTreeModel" "services" "I", .fieldLink RX9 86 "ServiceTreeModel" "newJob" "[I", .fieldLink RX9 77 "ServiceTreeModel" "member" "[Z", .fieldLink RX9 71 "ServiceTreeModel" "job" "[I", .fieldLink RX9 74 "ServiceTreeModel" "hasBegun" "[Z", .fieldLink RX9 31 "ServiceTreeModel" "state" "[I", .methodLink RX9 135 yX9_is, .instanceMethod yX9_is, .selects RX9 yX9_is yX9_is, .initialized RX9, .methodLink RX9 207 yX9_look, .instanceMethod yX9_look, .selects RX9 yX9_look yX9_look, .methodLink RX9 215 yX9_begin, .instanceMethod yX9_begin, .selects RX9 yX9_begin yX9_begin, .methodLink RX9 218 yX9_many, .static yX9_many, .methodLink RX9 211 yX9_to, .instanceMethod yX9_to, .selects RX9 yX9_to yX9_to] ++ (wsX90 ++ (wq_m_is ++ (wq_m_look ++ (wq_m_begin ++ (wq_m_many ++ (wq_m_to))))))
theorem in_m_order_X9 : ∀ w ∈ wsX90, w ∈ wq_m_order := fun _ h => List.mem_append_right _ (List.mem_append_left _ (h))
set_option maxRecDepth 20000 in
theorem wi_m_order : ∀ w ∈ wq_m_order, w ∈ lw_tbl := List.forall_mem_append.mpr ⟨(by decide +kernel), List.forall_mem_append.mpr ⟨inKX9, List.forall_mem_append.mpr ⟨wi_m_is, List.forall_mem_append.mpr ⟨wi_m_look, List.forall_mem_append.mpr ⟨wi_m_begin, List.forall_mem_append.mpr ⟨wi_m_many, wi_m_to⟩⟩⟩⟩⟩⟩
set_option maxRecDepth 20000 in
theorem wg_m_order : GoodIn wq_m_order wq_m_order := goodIn_sub (fun _ h => h) (by decide +kernel)
set_option maxRecDepth 20000 in
theorem wc_m_order_m_is_135 : GoodIn wq_m_order (wsV RX9 135 RX9 yX9_is wq_m_is) := goodIn_app (goodIn_of _ (by decide +kernel)) (fun w h => ⟨List.mem_append_right _ (List.mem_append_right _ (List.mem_append_left _ (h))), (wg_m_is w h).2⟩)
set_option maxRecDepth 20000 in
theorem wc_m_order_m_look_207 : GoodIn wq_m_order (wsV RX9 207 RX9 yX9_look wq_m_look) := goodIn_app (goodIn_of _ (by decide +kernel)) (fun w h => ⟨List.mem_append_right _ (List.mem_append_right _ (List.mem_append_right _ (List.mem_append_left _ (h)))), (wg_m_look w h).2⟩)
set_option maxRecDepth 20000 in
theorem wc_m_order_m_begin_215 : GoodIn wq_m_order (wsV RX9 215 RX9 yX9_begin wq_m_begin) := goodIn_app (goodIn_of _ (by decide +kernel)) (fun w h => ⟨List.mem_append_right _ (List.mem_append_right _ (List.mem_append_right _ (List.mem_append_right _ (List.mem_append_left _ (h))))), (wg_m_begin w h).2⟩)
set_option maxRecDepth 20000 in
theorem wc_m_order_m_many_218 : GoodIn wq_m_order (va_wsS RX9 218 yX9_many wq_m_many) := goodIn_app (goodIn_of _ (by decide +kernel)) (fun w h => ⟨List.mem_append_right _ (List.mem_append_right _ (List.mem_append_right _ (List.mem_append_right _ (List.mem_append_right _ (List.mem_append_left _ (h)))))), (wg_m_many w h).2⟩)
set_option maxRecDepth 20000 in
theorem wc_m_order_m_to_211 : GoodIn wq_m_order (wsV RX9 211 RX9 yX9_to wq_m_to) := goodIn_app (goodIn_of _ (by decide +kernel)) (fun w h => ⟨List.mem_append_right _ (List.mem_append_right _ (List.mem_append_right _ (List.mem_append_right _ (List.mem_append_right _ (List.mem_append_right _ (h)))))), (wg_m_to w h).2⟩)
def rm_m_order : Room := { frames := 4, cells := 0, slots := 0, locals := 98 }
set_option maxHeartbeats 4000000 in
set_option maxRecDepth 100000 in
theorem c_m_order (l : Launch) (dC : Nat → ClassId) (dI : Nat → Nat → Nat) (h : Nat) (a : Nat → Nat) (k : Nat → ClassId) (F : Nat → Nat → Int32) (V : Nat → Int32) (n b : Nat) (p0 : Int32) (p1 : Int32) (sz : Nat) (hI0 : InvM n b F V) (hb0 : b + 162 < 2147483648)  : Met l yX9_order wq_m_order rm_m_order (va_Pc [.ref h, .int p0, .int p1] (fun U => U.heap.size = sz ∧ va_P (dC, dI) vwCl (mW h a k F V) U.heap ∧ va_K (dC, dI) vwCl (mT k) U ∧ va_D (fun _ => True) (mW h a k F V))) (va_Qi (fun (r : Int32) (u : (Nat → Nat → Int32) × (Nat → Int32)) => StM n (b + 162) F V u.1 u.2 ∧ (∀ j : Nat, j ∉ ([7, 8, 9, 11, 12, 25, 26, 27, 28, 29, 30, 31, 32, 42, 43, 44] : List Nat) → u.1 j = F j) ∧ (∀ j : Nat, j ∉ ([33, 45] : List Nat) → u.2 j = V j) ∧ (True)) (fun (u : (Nat → Nat → Int32) × (Nat → Int32)) (t : State) => va_P (dC, dI) vwCl (mW h a k u.1 u.2) t.heap ∧ va_D (va_A (mW h a k F V) sz) (mW h a k u.1 u.2)) (va_A (mW h a k F V) sz)) 0 0 (va_A (mW h a k F V) sz) := by
  have hn : n ≤ 40 := hI0.1
  have hI : StM n b F V F V := StM.rf hI0
  have hU : ∀ j : Nat, j ∉ ([7, 8, 9, 11, 12, 25, 26, 27, 28, 29, 30, 31, 32, 42, 43, 44] : List Nat) → F j = F j := fun _ _ => rfl
  have hV : ∀ j : Nat, j ∉ ([33, 45] : List Nat) → V j = V j := fun _ _ => rfl
  refine Met.ofW (cc := cX9_order) (maxL := 5) (ret := (some .int)) (by decide) rfl ?_
  intro p e s m args below meth c s₁ B hml hv
  obtain ⟨rfl, hsz, hP, hK, hD0⟩ := hv
  have hx := B.exec
  have hb := B.bytes
  have hr := B.returns
  have hts := atoms_spec (ws := wq_m_order) B.pre
  have hown : s.vm.findClass RX9 = some m.cls := findClass_of_methodNamed B.named
  have hlocks := B.notSynchronized
  subst hsz
  have hD := hD0.self (sz := s.heap.size)
  generalize hAe : va_A (mW h a k F V) s.heap.size = A at hD ⊢
  have hA : ∀ q : Nat, s.heap.size ≤ q → A q := fun q h => by rw [← hAe]; exact Or.inr h
  have hS : va_S A s.heap s.heap [] := va_S.rf
  have hl := lv_entry ([.ref h, .int p0, .int p1]) (n := 5) (Nat.le_of_ble_eq_true rfl)
  rw [lg_entry_eq]
  generalize (lg_sl ([.ref h, .int p0, .int p1]) ++ List.replicate (5 - (lg_sl ([.ref h, .int p0, .int p1])).length) Slot.unset).toArray = ls at hl ⊢
  have hl : lv_has ls 5 [(0, .ref h), (1, .int p0), (2, .int p1)] := hl
  refine mw_Q (fun Q0 hQ => ?_)
  refine lv_iload_n hx hb dX9_order_0 rfl (lv_at hl 1 rfl) ?_
  refine lv_if_lt (tgt := 17) hx hb dX9_order_1 (by decide) (fun c1 => ?_) (fun c1 => ?_)
  · refine lv_iconst (v := (-1)) hx hb dX9_order_17 (by decide) ?_
    rw [hQ]
    exact W.iret (v := (-1)) hx hb hr (fun t ht hW => ⟨⟨(-1), (F, V), rfl, ⟨hI.mono (by omega), hU, hV, trivial⟩, by rw [ht]; exact hP, hD⟩, hS.F ht⟩) hS.2.2 dX9_order_18
  · refine lv_iload_n hx hb dX9_order_4 rfl (lv_at hl 1 rfl) ?_
    refine lv_iconst (v := 2) hx hb dX9_order_5 (by decide) ?_
    refine lv_icmp_gt (tgt := 17) hx hb dX9_order_6 (by decide) (fun c2 => ?_) (fun c2 => ?_)
    · refine lv_iconst (v := (-1)) hx hb dX9_order_17 (by decide) ?_
      rw [hQ]
      exact W.iret (v := (-1)) hx hb hr (fun t ht hW => ⟨⟨(-1), (F, V), rfl, ⟨hI.mono (by omega), hU, hV, trivial⟩, by rw [ht]; exact hP, hD⟩, hS.F ht⟩) hS.2.2 dX9_order_18
    · refine lv_aload_n hx hb dX9_order_9 rfl (lv_at hl 0 rfl) ?_
      refine lv_iload_n hx hb dX9_order_10 rfl (lv_at hl 2 rfl) ?_
      have hFc := mw_free hD hS hA
      refine va_calli (va_runV (As := [.int p1]) (rest := []) ⟨hx, hb, hml, hown, hts⟩ (c_m_is l dC dI h a k F V n (b) p1 s.heap.size hI.1 (by omega) ) (cwV 1 hts wc_m_order_m_is_135 rfl rfl rfl (by decide +kernel) ⟨Nat.le_of_ble_eq_true rfl, Nat.le_of_ble_eq_true rfl⟩) ⟨fun a9 U g mk q => by obtain ⟨q0, q1, qP, qK, qD⟩ := q; exact ⟨q0, q1, qP, va_K.moved (u := U) (U := U.calling g mk a9) (Vm.Alike.refl U.vm) qK, qD⟩, va_recv hK hP (ci := 10) (q0 := 0) rfl rfl, fun U hU hW => ⟨rfl, by rw [hU], by rw [hU]; exact hP, va_K.moved hW.alike hK, hD.weaken (fun _ _ _ _ => trivial)⟩⟩ rfl rfl hl.1 rfl (lv_room (Nat.le_of_ble_eq_true rfl)) dX9_order_11 ⟨Nat.le_of_ble_eq_true rfl, Nat.le_of_ble_eq_true rfl⟩) hS (fun q _ h => hFc q h) hFc (fun r3 u t H1 locs ht hvm hw hB hz1 hk1 hS => ?_)
      obtain ⟨F4, V5⟩ := u
      replace hP := hB.1
      rw [ht] at hP
      replace hD : va_D A (mW h a k F4 V5) := hB.2.weaken (fun _ q _ h9 => hFc q.1 h9)
      clear hB
      generalize H1 = H at hP hS ⊢
      replace hP : va_P (dC, dI) vwCl (mW h a k F4 V5) H := hP
      obtain ⟨hwF, hwV, hw⟩ : F4 = F ∧ V5 = V ∧ _ := hw
      rw [hwF, hwV] at hP hD
      rcases hw with ⟨rfl, j6, hj6, ej6⟩ | ⟨rfl, noj6⟩
      · subst ej6
        refine lv_if_ne (tgt := 19) hx hb dX9_order_14 (by decide) (fun _ => ?_) (fun c9 => absurd c9 (by decide))
        refine lv_aload_n hx hb dX9_order_19 rfl (lv_at hl 0 rfl) ?_
        refine lv_iload_n hx hb dX9_order_20 rfl (lv_at hl 1 rfl) ?_
        refine lv_iload_n hx hb dX9_order_21 rfl (lv_at hl 2 rfl) ?_
        have hFc := mw_free hD hS hA
        refine va_calli (va_runV (As := [.int p0, .int (nI j6)]) (rest := []) ⟨hx, hb, hml, hown, hts⟩ (c_m_look l dC dI h a k F V n (b) p0 j6 H.size hI.1 (by omega) (by omega)) (cwV 2 hts wc_m_order_m_look_207 rfl rfl rfl (by decide +kernel) ⟨Nat.le_of_ble_eq_true rfl, Nat.le_of_ble_eq_true rfl⟩) ⟨fun a9 U g mk q => by obtain ⟨q0, q1, qP, qK, qD⟩ := q; exact ⟨q0, q1, qP, va_K.moved (u := U) (U := U.calling g mk a9) (Vm.Alike.refl U.vm) qK, qD⟩, va_recv hK hP (ci := 10) (q0 := 0) rfl rfl, fun U hU hW => ⟨rfl, by rw [hU], by rw [hU]; exact hP, va_K.moved hW.alike hK, hD.weaken (fun _ _ _ _ => trivial)⟩⟩ rfl rfl hl.1 rfl (lv_room (Nat.le_of_ble_eq_true rfl)) dX9_order_22 ⟨Nat.le_of_ble_eq_true rfl, Nat.le_of_ble_eq_true rfl⟩) hS (fun q _ h => hFc q h) hFc (fun r7 u t H1 locs ht hvm hw hB hz1 hk1 hS => ?_)
        obtain ⟨F8, V9⟩ := u
        replace hP := hB.1
        rw [ht] at hP
        replace hD : va_D A (mW h a k F8 V9) := hB.2.weaken (fun _ q _ h9 => hFc q.1 h9)
        clear hB
        generalize H1 = H at hP hS ⊢
        replace hP : va_P (dC, dI) vwCl (mW h a k F8 V9) H := hP
        obtain ⟨hwI, hwU, hwV, hw⟩ := hw
        replace hU : ∀ j : Nat, j ∉ ([7, 8, 9, 11, 12, 25, 26, 27, 28, 29, 30, 31, 32, 42, 43, 44] : List Nat) → F8 j = F j := mw_tr (by decide) hwU hU
        replace hV : ∀ j : Nat, j ∉ ([33, 45] : List Nat) → V9 j = V j := mw_tr (by decide) hwV hV
        replace hI : StM n (b + 0) F V F8 V9 := hI.trans hwI
        replace hI : StM n (b) F V F8 V9 := hI
        refine lv_istore_n (lv' := [(3, .int r7), (0, .ref h), (1, .int p0), (2, .int (nI j6))]) hx hb dX9_order_25 rfl hl (by decide) rfl (fun ls hl => ?_)
        refine lv_iload_n hx hb dX9_order_26 rfl (lv_at hl 0 rfl) ?_
        refine lv_if_eq (tgt := 32) hx hb dX9_order_27 (by decide) (fun c10 => ?_) (fun c10 => ?_)
        · refine lv_iconst (v := 0) hx hb dX9_order_32 (by decide) ?_
          refine lv_istore (lv' := [(4, .int 0), (3, .int r7), (0, .ref h), (1, .int p0), (2, .int (nI j6))]) hx hb dX9_order_33 hl (by decide) rfl (fun ls hl => ?_)
          have lp14 : ∀ (fu12 i11 : Nat)  (F15 : Nat → Nat → Int32) (V16 : Nat → Int32) (H : Heap) (locs : List Loc) (ls : Array Slot), n < i11 + fu12 → i11 ≤ n → StM n (b + 2 * i11) F V F15 V16 → (∀ j : Nat, j ∉ ([7, 8, 9, 11, 12, 25, 26, 27, 28, 29, 30, 31, 32, 42, 43, 44] : List Nat) → F15 j = F j) → (∀ j : Nat, j ∉ ([33, 45] : List Nat) → V16 j = V j) → va_P (dC, dI) vwCl (mW h a k F15 V16) H → va_D A (mW h a k F15 V16) → va_S A s.heap H locs → lv_has ls 5 [(4, .int (nI i11)), (3, .int r7), (0, .ref h), (1, .int p0), (2, .int (nI j6))] → W p l e (headSpec wq_m_order rm_m_order).room s m ([.ref h, .int p0, .int (nI j6)] : List Value).toArray below meth c H locs 0 0 Q0 (F0 m 35 ls []) := by
            intro fu12
            induction fu12 with
            | zero =>
              intro i11  F15 V16 H locs ls hf hi
              exact absurd hf (by omega)
            | succ fu12 ih13 =>
              intro i11  F15 V16 H locs ls hfi11 hii11 hI hU hV hP hD hS hl
              refine lv_iload hx hb dX9_order_35 (lv_at hl 0 rfl) ?_
              refine lv_aload_n hx hb dX9_order_37 rfl (lv_at hl 2 rfl) ?_
              refine va_get (D := (dC, dI)) (ci := 10) (v := .int (V16 21)) (C := RX9) (T := TX9) (N := 46) hx hb hts in_m_order_X9 hown hK hP 0 rfl rfl 21 (by decide) (hts (.fieldLink RX9 126 "ServiceTreeModel" "services" "I") (by decide +kernel)) (fun _ h9 => h9) rfl dX9_order_38 ?_
              refine p1_topr (v := .int (nI n)) (congrArg Value.int hI.1.2.1) ?_
              refine lv_icmp_ge (tgt := 100) hx hb dX9_order_41 (by decide) (fun c17 => ?_) (fun c17 => ?_)
              · replace c17 : n ≤ i11 := (nI_leI (a := n) (b := i11) (by omega) (by omega)).mp c17
                refine lv_aload_n hx hb dX9_order_100 rfl (lv_at hl 2 rfl) ?_
                have hFc := mw_free hD hS hA
                refine va_callv (va_runV (As := []) (rest := []) ⟨hx, hb, hml, hown, hts⟩ (c_m_begin l dC dI h a k F15 V16 n (b + 2 * i11)  H.size hI.1 (by omega) ) (cwV 0 hts wc_m_order_m_begin_215 rfl rfl rfl (by decide +kernel) ⟨Nat.le_of_ble_eq_true rfl, Nat.le_of_ble_eq_true rfl⟩) ⟨fun a9 U g mk q => by obtain ⟨q0, q1, qP, qK, qD⟩ := q; exact ⟨q0, q1, qP, va_K.moved (u := U) (U := U.calling g mk a9) (Vm.Alike.refl U.vm) qK, qD⟩, va_recv hK hP (ci := 10) (q0 := 0) rfl rfl, fun U hU hW => ⟨rfl, by rw [hU], by rw [hU]; exact hP, va_K.moved hW.alike hK, hD.weaken (fun _ _ _ _ => trivial)⟩⟩ rfl rfl hl.1 rfl (lv_room (Nat.le_of_ble_eq_true rfl)) dX9_order_101 ⟨Nat.le_of_ble_eq_true rfl, Nat.le_of_ble_eq_true rfl⟩) hS (fun q _ h => hFc q h) hFc (fun u t H1 locs ht hvm hw hB hz1 hk1 hS => ?_)
                obtain ⟨F19, V20⟩ := u
                replace hP := hB.1
                rw [ht] at hP
                replace hD : va_D A (mW h a k F19 V20) := hB.2.weaken (fun _ q _ h9 => hFc q.1 h9)
                clear hB
                generalize H1 = H at hP hS ⊢
                replace hP : va_P (dC, dI) vwCl (mW h a k F19 V20) H := hP
                obtain ⟨hwI, hwU, hwV, hw⟩ := hw
                replace hU : ∀ j : Nat, j ∉ ([7, 8, 9, 11, 12, 25, 26, 27, 28, 29, 30, 31, 32, 42, 43, 44] : List Nat) → F19 j = F j := mw_tr (by decide) hwU hU
                replace hV : ∀ j : Nat, j ∉ ([33, 45] : List Nat) → V20 j = V j := mw_tr (by decide) hwV hV
                replace hI : StM n (b + 2 * i11 + 82) F V F19 V20 := hI.trans hwI
                refine lv_aload_n hx hb dX9_order_104 rfl (lv_at hl 2 rfl) ?_
                refine va_get (D := (dC, dI)) (ci := 10) (v := .ref (a 30)) (C := RX9) (T := TX9) (N := 46) hx hb hts in_m_order_X9 hown hK hP 0 rfl rfl 30 (by decide) (hts (.fieldLink RX9 86 "ServiceTreeModel" "newJob" "[I") (by decide +kernel)) (fun _ h9 => h9) rfl dX9_order_105 ?_
                refine lv_aload_n hx hb dX9_order_108 rfl (lv_at hl 2 rfl) ?_
                refine va_get (D := (dC, dI)) (ci := 10) (v := .int (V20 21)) (C := RX9) (T := TX9) (N := 46) hx hb hts in_m_order_X9 hown hK hP 0 rfl rfl 21 (by decide) (hts (.fieldLink RX9 126 "ServiceTreeModel" "services" "I") (by decide +kernel)) (fun _ h9 => h9) rfl dX9_order_109 ?_
                refine p1_topr (v := .int (nI n)) (congrArg Value.int hI.1.2.1) ?_
                have hFc := mw_free hD hS hA
                refine va_calli (va_runS (As := [.ref (a 30), .int (nI n)]) (rest := []) ⟨hx, hb, hml, hown, hts⟩ (c_m_many l dC dI h a k F19 V20 n (b + 2 * i11 + 82) n H.size hI.1 (by omega) (by omega)) (va_cwS 2 hts wc_m_order_m_many_218 rfl rfl rfl (by decide +kernel) ⟨Nat.le_of_ble_eq_true rfl, Nat.le_of_ble_eq_true rfl⟩) ⟨fun a9 U g mk q => by obtain ⟨q0, q1, qP, qK, qD⟩ := q; exact ⟨q0, q1, qP, va_K.moved (u := U) (U := U.calling g mk a9) (Vm.Alike.refl U.vm) qK, qD⟩, fun U hU hW => ⟨rfl, by rw [hU], by rw [hU]; exact hP, va_K.moved hW.alike hK, hD.weaken (fun _ _ _ _ => trivial)⟩⟩ rfl rfl hl.1 rfl (lv_room (Nat.le_of_ble_eq_true rfl)) dX9_order_112 ⟨Nat.le_of_ble_eq_true rfl, Nat.le_of_ble_eq_true rfl⟩) hS (fun q _ h => hFc q h) hFc (fun r21 u t H1 locs ht hvm hw hB hz1 hk1 hS => ?_)
                obtain ⟨F22, V23⟩ := u
                replace hP := hB.1
                rw [ht] at hP
                replace hD : va_D A (mW h a k F22 V23) := hB.2.weaken (fun _ q _ h9 => hFc q.1 h9)
                clear hB
                generalize H1 = H at hP hS ⊢
                replace hP : va_P (dC, dI) vwCl (mW h a k F22 V23) H := hP
                obtain ⟨hwF, hwV, hw⟩ : F22 = F19 ∧ V23 = V20 ∧ _ := hw
                rw [hwF, hwV] at hP hD
                rw [hQ]
                exact W.iret (v := r21) hx hb hr (fun t ht hW => ⟨⟨r21, (F19, V20), rfl, ⟨hI.mono (by omega), hU, hV, trivial⟩, by rw [ht]; exact hP, hD⟩, hS.F ht⟩) hS.2.2 dX9_order_115
              · replace c17 : ¬ (n ≤ i11) := fun q9 => c17 ((nI_leI (a := n) (b := i11) (by omega) (by omega)).mpr q9)
                refine lv_aload_n hx hb dX9_order_44 rfl (lv_at hl 2 rfl) ?_
                refine va_get (D := (dC, dI)) (ci := 10) (v := .ref (a 27)) (C := RX9) (T := TX9) (N := 46) hx hb hts in_m_order_X9 hown hK hP 0 rfl rfl 27 (by decide) (hts (.fieldLink RX9 77 "ServiceTreeModel" "member" "[Z") (by decide +kernel)) (fun _ h9 => h9) rfl dX9_order_45 ?_
                refine lv_iload hx hb dX9_order_48 (lv_at hl 0 rfl) ?_
                refine va_zald (n := 40) (f := F15 27) hx hb hK hP 23 22 rfl rfl (vp_in_nI (n := i11) (by omega) (by decide)) dX9_order_50 ?_
                refine lv_topi (fun x24 ex24 => ?_)
                refine lv_if_eq (tgt := 72) hx hb dX9_order_51 (by decide) (fun c25 => ?_) (fun c25 => ?_)
                · refine lv_aload_n hx hb dX9_order_72 rfl (lv_at hl 2 rfl) ?_
                  refine va_get (D := (dC, dI)) (ci := 10) (v := .ref (a 25)) (C := RX9) (T := TX9) (N := 46) hx hb hts in_m_order_X9 hown hK hP 0 rfl rfl 25 (by decide) (hts (.fieldLink RX9 71 "ServiceTreeModel" "job" "[I") (by decide +kernel)) (fun _ h9 => h9) rfl dX9_order_73 ?_
                  refine lv_iload hx hb dX9_order_76 (lv_at hl 0 rfl) ?_
                  refine lv_aload_n hx hb dX9_order_78 rfl (lv_at hl 2 rfl) ?_
                  refine va_get (D := (dC, dI)) (ci := 10) (v := .ref (a 30)) (C := RX9) (T := TX9) (N := 46) hx hb hts in_m_order_X9 hown hK hP 0 rfl rfl 30 (by decide) (hts (.fieldLink RX9 86 "ServiceTreeModel" "newJob" "[I") (by decide +kernel)) (fun _ h9 => h9) rfl dX9_order_79 ?_
                  refine lv_iload hx hb dX9_order_82 (lv_at hl 0 rfl) ?_
                  refine va_iald (n := 40) (f := F15 30) hx hb hK hP 26 25 rfl rfl (vp_in_nI (n := i11) (by omega) (by decide)) dX9_order_84 ?_
                  refine lv_topi (fun x26 ex26 => ?_)
                  refine va_iast (n := 40) (f := F15 25) hx hb hK hP hD hS 21 20 rfl rfl (vp_in_nI (n := i11) (by omega) (by decide)) dX9_order_85 (fun H locs hP hD hS => ?_)
                  rw [mW_set_25] at hP hD
                  obtain ⟨F27, eF27⟩ : ∃ f9 : Nat → Nat → Int32, f9 = va_up F15 25 (upd (F15 25) (nI i11).toNatClampNeg x26) := ⟨_, rfl⟩
                  rw [← eF27] at hP hD
                  replace hI : StM n (b + 2 * i11) F V F27 V16 := ⟨by rw [eF27]; exact hI.1.setF (by decide), trivial⟩
                  replace hU : ∀ j : Nat, j ∉ ([7, 8, 9, 11, 12, 25, 26, 27, 28, 29, 30, 31, 32, 42, 43, 44] : List Nat) → F27 j = F j := by rw [eF27]; exact mw_up (by decide) hU
                  refine lv_aload_n hx hb dX9_order_86 rfl (lv_at hl 2 rfl) ?_
                  refine va_get (D := (dC, dI)) (ci := 10) (v := .ref (a 26)) (C := RX9) (T := TX9) (N := 46) hx hb hts in_m_order_X9 hown hK hP 0 rfl rfl 26 (by decide) (hts (.fieldLink RX9 74 "ServiceTreeModel" "hasBegun" "[Z") (by decide +kernel)) (fun _ h9 => h9) rfl dX9_order_87 ?_
                  refine lv_iload hx hb dX9_order_90 (lv_at hl 0 rfl) ?_
                  refine lv_iconst (v := 0) hx hb dX9_order_92 (by decide) ?_
                  refine va_zast (n := 40) (f := F27 26) hx hb hK hP hD hS 22 21 rfl rfl (vp_in_nI (n := i11) (by omega) (by decide)) dX9_order_93 (fun H locs hP hD hS => ?_)
                  rw [mW_set_26] at hP hD
                  obtain ⟨F28, eF28⟩ : ∃ f9 : Nat → Nat → Int32, f9 = va_up F27 26 (upd (F27 26) (nI i11).toNatClampNeg (vp_nar .boolean 0)) := ⟨_, rfl⟩
                  rw [← eF28] at hP hD
                  replace hI : StM n (b + 2 * i11) F V F28 V16 := ⟨by rw [eF28]; exact hI.1.setF (by decide), trivial⟩
                  replace hU : ∀ j : Nat, j ∉ ([7, 8, 9, 11, 12, 25, 26, 27, 28, 29, 30, 31, 32, 42, 43, 44] : List Nat) → F28 j = F j := by rw [eF28]; exact mw_up (by decide) hU
                  refine lv_iinc (v := nI (i11 + 1)) (lv' := [(4, .int (nI (i11 + 1))), (3, .int r7), (0, .ref h), (1, .int p0), (2, .int (nI j6))]) hx hb dX9_order_94 hl (k := 0) rfl (nI_add i11 1) (by decide) rfl (fun ls hl => ?_)
                  refine lv_goto (tgt := 35) hx hb dX9_order_97 (by decide) ?_
                  exact ih13 (i11 + 1)  F28 V16 _ _ _ (by omega) (by omega) (hI.mono (by omega)) hU hV  hP hD hS (lv_sub hl [0, 1, 2, 3, 4] rfl)
                · refine lv_aload_n hx hb dX9_order_54 rfl (lv_at hl 2 rfl) ?_
                  refine va_get (D := (dC, dI)) (ci := 10) (v := .ref (a 7)) (C := RX9) (T := TX9) (N := 46) hx hb hts in_m_order_X9 hown hK hP 0 rfl rfl 7 (by decide) (hts (.fieldLink RX9 31 "ServiceTreeModel" "state" "[I") (by decide +kernel)) (fun _ h9 => h9) rfl dX9_order_55 ?_
                  refine lv_iload hx hb dX9_order_58 (lv_at hl 0 rfl) ?_
                  refine va_iald (n := 40) (f := F15 7) hx hb hK hP 8 7 rfl rfl (vp_in_nI (n := i11) (by omega) (by decide)) dX9_order_60 ?_
                  refine lv_topi (fun x29 ex29 => ?_)
                  refine lv_iconst (v := 5) hx hb dX9_order_61 (by decide) ?_
                  refine lv_icmp_ne (tgt := 72) hx hb dX9_order_62 (by decide) (fun c30 => ?_) (fun c30 => ?_)
                  · refine lv_aload_n hx hb dX9_order_72 rfl (lv_at hl 2 rfl) ?_
                    refine va_get (D := (dC, dI)) (ci := 10) (v := .ref (a 25)) (C := RX9) (T := TX9) (N := 46) hx hb hts in_m_order_X9 hown hK hP 0 rfl rfl 25 (by decide) (hts (.fieldLink RX9 71 "ServiceTreeModel" "job" "[I") (by decide +kernel)) (fun _ h9 => h9) rfl dX9_order_73 ?_
                    refine lv_iload hx hb dX9_order_76 (lv_at hl 0 rfl) ?_
                    refine lv_aload_n hx hb dX9_order_78 rfl (lv_at hl 2 rfl) ?_
                    refine va_get (D := (dC, dI)) (ci := 10) (v := .ref (a 30)) (C := RX9) (T := TX9) (N := 46) hx hb hts in_m_order_X9 hown hK hP 0 rfl rfl 30 (by decide) (hts (.fieldLink RX9 86 "ServiceTreeModel" "newJob" "[I") (by decide +kernel)) (fun _ h9 => h9) rfl dX9_order_79 ?_
                    refine lv_iload hx hb dX9_order_82 (lv_at hl 0 rfl) ?_
                    refine va_iald (n := 40) (f := F15 30) hx hb hK hP 26 25 rfl rfl (vp_in_nI (n := i11) (by omega) (by decide)) dX9_order_84 ?_
                    refine lv_topi (fun x31 ex31 => ?_)
                    refine va_iast (n := 40) (f := F15 25) hx hb hK hP hD hS 21 20 rfl rfl (vp_in_nI (n := i11) (by omega) (by decide)) dX9_order_85 (fun H locs hP hD hS => ?_)
                    rw [mW_set_25] at hP hD
                    obtain ⟨F32, eF32⟩ : ∃ f9 : Nat → Nat → Int32, f9 = va_up F15 25 (upd (F15 25) (nI i11).toNatClampNeg x31) := ⟨_, rfl⟩
                    rw [← eF32] at hP hD
                    replace hI : StM n (b + 2 * i11) F V F32 V16 := ⟨by rw [eF32]; exact hI.1.setF (by decide), trivial⟩
                    replace hU : ∀ j : Nat, j ∉ ([7, 8, 9, 11, 12, 25, 26, 27, 28, 29, 30, 31, 32, 42, 43, 44] : List Nat) → F32 j = F j := by rw [eF32]; exact mw_up (by decide) hU
                    refine lv_aload_n hx hb dX9_order_86 rfl (lv_at hl 2 rfl) ?_
                    refine va_get (D := (dC, dI)) (ci := 10) (v := .ref (a 26)) (C := RX9) (T := TX9) (N := 46) hx hb hts in_m_order_X9 hown hK hP 0 rfl rfl 26 (by decide) (hts (.fieldLink RX9 74 "ServiceTreeModel" "hasBegun" "[Z") (by decide +kernel)) (fun _ h9 => h9) rfl dX9_order_87 ?_
                    refine lv_iload hx hb dX9_order_90 (lv_at hl 0 rfl) ?_
                    refine lv_iconst (v := 0) hx hb dX9_order_92 (by decide) ?_
                    refine va_zast (n := 40) (f := F32 26) hx hb hK hP hD hS 22 21 rfl rfl (vp_in_nI (n := i11) (by omega) (by decide)) dX9_order_93 (fun H locs hP hD hS => ?_)
                    rw [mW_set_26] at hP hD
                    obtain ⟨F33, eF33⟩ : ∃ f9 : Nat → Nat → Int32, f9 = va_up F32 26 (upd (F32 26) (nI i11).toNatClampNeg (vp_nar .boolean 0)) := ⟨_, rfl⟩
                    rw [← eF33] at hP hD
                    replace hI : StM n (b + 2 * i11) F V F33 V16 := ⟨by rw [eF33]; exact hI.1.setF (by decide), trivial⟩
                    replace hU : ∀ j : Nat, j ∉ ([7, 8, 9, 11, 12, 25, 26, 27, 28, 29, 30, 31, 32, 42, 43, 44] : List Nat) → F33 j = F j := by rw [eF33]; exact mw_up (by decide) hU
                    refine lv_iinc (v := nI (i11 + 1)) (lv' := [(4, .int (nI (i11 + 1))), (3, .int r7), (0, .ref h), (1, .int p0), (2, .int (nI j6))]) hx hb dX9_order_94 hl (k := 0) rfl (nI_add i11 1) (by decide) rfl (fun ls hl => ?_)
                    refine lv_goto (tgt := 35) hx hb dX9_order_97 (by decide) ?_
                    exact ih13 (i11 + 1)  F33 V16 _ _ _ (by omega) (by omega) (hI.mono (by omega)) hU hV  hP hD hS (lv_sub hl [0, 1, 2, 3, 4] rfl)
                  · refine lv_aload_n hx hb dX9_order_65 rfl (lv_at hl 2 rfl) ?_
                    refine lv_iload hx hb dX9_order_66 (lv_at hl 0 rfl) ?_
                    refine lv_iconst (v := 0) hx hb dX9_order_68 (by decide) ?_
                    have hFc := mw_free hD hS hA
                    refine va_callv (va_runV (As := [.int (nI i11), .int 0]) (rest := []) ⟨hx, hb, hml, hown, hts⟩ (c_m_to l dC dI h a k F15 V16 n (b + 2 * i11) i11 0 H.size hI.1 (by omega) (by omega)) (cwV 2 hts wc_m_order_m_to_211 rfl rfl rfl (by decide +kernel) ⟨Nat.le_of_ble_eq_true rfl, Nat.le_of_ble_eq_true rfl⟩) ⟨fun a9 U g mk q => by obtain ⟨q0, q1, qP, qK, qD⟩ := q; exact ⟨q0, q1, qP, va_K.moved (u := U) (U := U.calling g mk a9) (Vm.Alike.refl U.vm) qK, qD⟩, va_recv hK hP (ci := 10) (q0 := 0) rfl rfl, fun U hU hW => ⟨rfl, by rw [hU], by rw [hU]; exact hP, va_K.moved hW.alike hK, hD.weaken (fun _ _ _ _ => trivial)⟩⟩ rfl rfl hl.1 rfl (lv_room (Nat.le_of_ble_eq_true rfl)) dX9_order_69 ⟨Nat.le_of_ble_eq_true rfl, Nat.le_of_ble_eq_true rfl⟩) hS (fun q _ h => hFc q h) hFc (fun u t H1 locs ht hvm hw hB hz1 hk1 hS => ?_)
                    obtain ⟨F35, V36⟩ := u
                    replace hP := hB.1
                    rw [ht] at hP
                    replace hD : va_D A (mW h a k F35 V36) := hB.2.weaken (fun _ q _ h9 => hFc q.1 h9)
                    clear hB
                    generalize H1 = H at hP hS ⊢
                    replace hP : va_P (dC, dI) vwCl (mW h a k F35 V36) H := hP
                    obtain ⟨hwI, hwU, hwV, hw⟩ := hw
                    replace hU : ∀ j : Nat, j ∉ ([7, 8, 9, 11, 12, 25, 26, 27, 28, 29, 30, 31, 32, 42, 43, 44] : List Nat) → F35 j = F j := mw_tr (by decide) hwU hU
                    replace hV : ∀ j : Nat, j ∉ ([33, 45] : List Nat) → V36 j = V j := mw_tr (by decide) hwV hV
                    replace hI : StM n (b + 2 * i11 + 2) F V F35 V36 := hI.trans hwI
                    refine lv_aload_n hx hb dX9_order_72 rfl (lv_at hl 2 rfl) ?_
                    refine va_get (D := (dC, dI)) (ci := 10) (v := .ref (a 25)) (C := RX9) (T := TX9) (N := 46) hx hb hts in_m_order_X9 hown hK hP 0 rfl rfl 25 (by decide) (hts (.fieldLink RX9 71 "ServiceTreeModel" "job" "[I") (by decide +kernel)) (fun _ h9 => h9) rfl dX9_order_73 ?_
                    refine lv_iload hx hb dX9_order_76 (lv_at hl 0 rfl) ?_
                    refine lv_aload_n hx hb dX9_order_78 rfl (lv_at hl 2 rfl) ?_
                    refine va_get (D := (dC, dI)) (ci := 10) (v := .ref (a 30)) (C := RX9) (T := TX9) (N := 46) hx hb hts in_m_order_X9 hown hK hP 0 rfl rfl 30 (by decide) (hts (.fieldLink RX9 86 "ServiceTreeModel" "newJob" "[I") (by decide +kernel)) (fun _ h9 => h9) rfl dX9_order_79 ?_
                    refine lv_iload hx hb dX9_order_82 (lv_at hl 0 rfl) ?_
                    refine va_iald (n := 40) (f := F35 30) hx hb hK hP 26 25 rfl rfl (vp_in_nI (n := i11) (by omega) (by decide)) dX9_order_84 ?_
                    refine lv_topi (fun x37 ex37 => ?_)
                    refine va_iast (n := 40) (f := F35 25) hx hb hK hP hD hS 21 20 rfl rfl (vp_in_nI (n := i11) (by omega) (by decide)) dX9_order_85 (fun H locs hP hD hS => ?_)
                    rw [mW_set_25] at hP hD
                    obtain ⟨F38, eF38⟩ : ∃ f9 : Nat → Nat → Int32, f9 = va_up F35 25 (upd (F35 25) (nI i11).toNatClampNeg x37) := ⟨_, rfl⟩
                    rw [← eF38] at hP hD
                    replace hI : StM n (b + 2 * i11 + 2) F V F38 V36 := ⟨by rw [eF38]; exact hI.1.setF (by decide), trivial⟩
                    replace hU : ∀ j : Nat, j ∉ ([7, 8, 9, 11, 12, 25, 26, 27, 28, 29, 30, 31, 32, 42, 43, 44] : List Nat) → F38 j = F j := by rw [eF38]; exact mw_up (by decide) hU
                    refine lv_aload_n hx hb dX9_order_86 rfl (lv_at hl 2 rfl) ?_
                    refine va_get (D := (dC, dI)) (ci := 10) (v := .ref (a 26)) (C := RX9) (T := TX9) (N := 46) hx hb hts in_m_order_X9 hown hK hP 0 rfl rfl 26 (by decide) (hts (.fieldLink RX9 74 "ServiceTreeModel" "hasBegun" "[Z") (by decide +kernel)) (fun _ h9 => h9) rfl dX9_order_87 ?_
                    refine lv_iload hx hb dX9_order_90 (lv_at hl 0 rfl) ?_
                    refine lv_iconst (v := 0) hx hb dX9_order_92 (by decide) ?_
                    refine va_zast (n := 40) (f := F38 26) hx hb hK hP hD hS 22 21 rfl rfl (vp_in_nI (n := i11) (by omega) (by decide)) dX9_order_93 (fun H locs hP hD hS => ?_)
                    rw [mW_set_26] at hP hD
                    obtain ⟨F39, eF39⟩ : ∃ f9 : Nat → Nat → Int32, f9 = va_up F38 26 (upd (F38 26) (nI i11).toNatClampNeg (vp_nar .boolean 0)) := ⟨_, rfl⟩
                    rw [← eF39] at hP hD
                    replace hI : StM n (b + 2 * i11 + 2) F V F39 V36 := ⟨by rw [eF39]; exact hI.1.setF (by decide), trivial⟩
                    replace hU : ∀ j : Nat, j ∉ ([7, 8, 9, 11, 12, 25, 26, 27, 28, 29, 30, 31, 32, 42, 43, 44] : List Nat) → F39 j = F j := by rw [eF39]; exact mw_up (by decide) hU
                    refine lv_iinc (v := nI (i11 + 1)) (lv' := [(4, .int (nI (i11 + 1))), (3, .int r7), (0, .ref h), (1, .int p0), (2, .int (nI j6))]) hx hb dX9_order_94 hl (k := 0) rfl (nI_add i11 1) (by decide) rfl (fun ls hl => ?_)
                    refine lv_goto (tgt := 35) hx hb dX9_order_97 (by decide) ?_
                    exact ih13 (i11 + 1)  F39 V36 _ _ _ (by omega) (by omega) (hI.mono (by omega)) hU hV  hP hD hS (lv_sub hl [0, 1, 2, 3, 4] rfl)
          exact lp14 (n + 1) 0  F8 V9 _ _ _ (by omega) (by omega) (hI.mono (by omega)) hU hV  hP hD hS hl
        · refine lv_iload_n hx hb dX9_order_30 rfl (lv_at hl 0 rfl) ?_
          rw [hQ]
          exact W.iret (v := r7) hx hb hr (fun t ht hW => ⟨⟨r7, (F8, V9), rfl, ⟨hI.mono (by omega), hU, hV, trivial⟩, by rw [ht]; exact hP, hD⟩, hS.F ht⟩) hS.2.2 dX9_order_31
      · refine lv_if_ne (tgt := 19) hx hb dX9_order_14 (by decide) (fun c9 => absurd (by decide) c9) (fun _ => ?_)
        refine lv_iconst (v := (-1)) hx hb dX9_order_17 (by decide) ?_
        rw [hQ]
        exact W.iret (v := (-1)) hx hb hr (fun t ht hW => ⟨⟨(-1), (F, V), rfl, ⟨hI.mono (by omega), hU, hV, trivial⟩, by rw [ht]; exact hP, hD⟩, hS.F ht⟩) hS.2.2 dX9_order_18
def wq_m_letter : List Cond := [.code yX9_letter cX9_letter 4 (some .int), .fieldLink RX9 9 "ServiceTreeModel" "kind" "[I", .fieldLink RX9 65 "ServiceTreeModel" "letterMany" "[I", .fieldLink RX9 62 "ServiceTreeModel" "letters" "[I", .fieldLink RX9 249 "ServiceTreeModel" "lettersAll" "I", .fieldLink RX9 31 "ServiceTreeModel" "state" "[I", .fieldLink RX9 197 "ServiceTreeModel" "ring" "I", .methodLink RX9 135 yX9_is, .instanceMethod yX9_is, .selects RX9 yX9_is yX9_is, .initialized RX9, .methodLink RX9 252 yX9_order, .instanceMethod yX9_order, .selects RX9 yX9_order yX9_order] ++ (wsX90 ++ (wq_m_is ++ (wq_m_order)))
theorem in_m_letter_X9 : ∀ w ∈ wsX90, w ∈ wq_m_letter := fun _ h => List.mem_append_right _ (List.mem_append_left _ (h))
set_option maxRecDepth 20000 in
theorem wi_m_letter : ∀ w ∈ wq_m_letter, w ∈ lw_tbl := List.forall_mem_append.mpr ⟨(by decide +kernel), List.forall_mem_append.mpr ⟨inKX9, List.forall_mem_append.mpr ⟨wi_m_is, wi_m_order⟩⟩⟩
set_option maxRecDepth 20000 in
theorem wg_m_letter : GoodIn wq_m_letter wq_m_letter := goodIn_sub (fun _ h => h) (by decide +kernel)
set_option maxRecDepth 20000 in
theorem wc_m_letter_m_is_135 : GoodIn wq_m_letter (wsV RX9 135 RX9 yX9_is wq_m_is) := goodIn_app (goodIn_of _ (by decide +kernel)) (fun w h => ⟨List.mem_append_right _ (List.mem_append_right _ (List.mem_append_left _ (h))), (wg_m_is w h).2⟩)
set_option maxRecDepth 20000 in
theorem wc_m_letter_m_order_252 : GoodIn wq_m_letter (wsV RX9 252 RX9 yX9_order wq_m_order) := goodIn_app (goodIn_of _ (by decide +kernel)) (fun w h => ⟨List.mem_append_right _ (List.mem_append_right _ (List.mem_append_right _ (h))), (wg_m_order w h).2⟩)
def rm_m_letter : Room := { frames := 5, cells := 0, slots := 0, locals := 122 }
set_option maxHeartbeats 4000000 in
set_option maxRecDepth 100000 in
theorem c_m_letter (l : Launch) (dC : Nat → ClassId) (dI : Nat → Nat → Nat) (h : Nat) (a : Nat → Nat) (k : Nat → ClassId) (F : Nat → Nat → Int32) (V : Nat → Int32) (n b : Nat) (p0 : Int32) (sz : Nat) (hI0 : InvM n b F V) (hb0 : b + 162 < 2147483648)  : Met l yX9_letter wq_m_letter rm_m_letter (va_Pc [.ref h, .int p0] (fun U => U.heap.size = sz ∧ va_P (dC, dI) vwCl (mW h a k F V) U.heap ∧ va_K (dC, dI) vwCl (mT k) U ∧ va_D (fun _ => True) (mW h a k F V))) (va_Qi (fun (r : Int32) (u : (Nat → Nat → Int32) × (Nat → Int32)) => StM n (b + 162) F V u.1 u.2 ∧ (∀ j : Nat, j ∉ ([7, 8, 9, 11, 12, 17, 18, 25, 26, 27, 28, 29, 30, 31, 32, 42, 43, 44] : List Nat) → u.1 j = F j) ∧ (∀ j : Nat, j ∉ ([23, 33, 45] : List Nat) → u.2 j = V j) ∧ (True)) (fun (u : (Nat → Nat → Int32) × (Nat → Int32)) (t : State) => va_P (dC, dI) vwCl (mW h a k u.1 u.2) t.heap ∧ va_D (va_A (mW h a k F V) sz) (mW h a k u.1 u.2)) (va_A (mW h a k F V) sz)) 0 0 (va_A (mW h a k F V) sz) := by
  have hn : n ≤ 40 := hI0.1
  have hI : StM n b F V F V := StM.rf hI0
  have hU : ∀ j : Nat, j ∉ ([7, 8, 9, 11, 12, 17, 18, 25, 26, 27, 28, 29, 30, 31, 32, 42, 43, 44] : List Nat) → F j = F j := fun _ _ => rfl
  have hV : ∀ j : Nat, j ∉ ([23, 33, 45] : List Nat) → V j = V j := fun _ _ => rfl
  refine Met.ofW (cc := cX9_letter) (maxL := 4) (ret := (some .int)) (by decide) rfl ?_
  intro p e s m args below meth c s₁ B hml hv
  obtain ⟨rfl, hsz, hP, hK, hD0⟩ := hv
  have hx := B.exec
  have hb := B.bytes
  have hr := B.returns
  have hts := atoms_spec (ws := wq_m_letter) B.pre
  have hown : s.vm.findClass RX9 = some m.cls := findClass_of_methodNamed B.named
  have hlocks := B.notSynchronized
  subst hsz
  have hD := hD0.self (sz := s.heap.size)
  generalize hAe : va_A (mW h a k F V) s.heap.size = A at hD ⊢
  have hA : ∀ q : Nat, s.heap.size ≤ q → A q := fun q h => by rw [← hAe]; exact Or.inr h
  have hS : va_S A s.heap s.heap [] := va_S.rf
  have hl := lv_entry ([.ref h, .int p0]) (n := 4) (Nat.le_of_ble_eq_true rfl)
  rw [lg_entry_eq]
  generalize (lg_sl ([.ref h, .int p0]) ++ List.replicate (4 - (lg_sl ([.ref h, .int p0])).length) Slot.unset).toArray = ls at hl ⊢
  have hl : lv_has ls 4 [(0, .ref h), (1, .int p0)] := hl
  have t18 : F 18 = F 18 := rfl
  refine lv_aload_n hx hb dX9_letter_0 rfl (lv_at hl 0 rfl) ?_
  refine lv_iload_n hx hb dX9_letter_1 rfl (lv_at hl 1 rfl) ?_
  have hFc := mw_free hD hS hA
  refine va_calli (va_runV (As := [.int p0]) (rest := []) ⟨hx, hb, hml, hown, hts⟩ (c_m_is l dC dI h a k F V n (b) p0 s.heap.size hI.1 (by omega) ) (cwV 1 hts wc_m_letter_m_is_135 rfl rfl rfl (by decide +kernel) ⟨Nat.le_of_ble_eq_true rfl, Nat.le_of_ble_eq_true rfl⟩) ⟨fun a9 U g mk q => by obtain ⟨q0, q1, qP, qK, qD⟩ := q; exact ⟨q0, q1, qP, va_K.moved (u := U) (U := U.calling g mk a9) (Vm.Alike.refl U.vm) qK, qD⟩, va_recv hK hP (ci := 10) (q0 := 0) rfl rfl, fun U hU hW => ⟨rfl, by rw [hU], by rw [hU]; exact hP, va_K.moved hW.alike hK, hD.weaken (fun _ _ _ _ => trivial)⟩⟩ rfl rfl hl.1 rfl (lv_room (Nat.le_of_ble_eq_true rfl)) dX9_letter_2 ⟨Nat.le_of_ble_eq_true rfl, Nat.le_of_ble_eq_true rfl⟩) hS (fun q _ h => hFc q h) hFc (fun r1 u t H1 locs ht hvm hw hB hz1 hk1 hS => ?_)
  obtain ⟨F2, V3⟩ := u
  replace hP := hB.1
  rw [ht] at hP
  replace hD : va_D A (mW h a k F2 V3) := hB.2.weaken (fun _ q _ h9 => hFc q.1 h9)
  clear hB
  generalize H1 = H at hP hS ⊢
  replace hP : va_P (dC, dI) vwCl (mW h a k F2 V3) H := hP
  obtain ⟨hwF, hwV, hw⟩ : F2 = F ∧ V3 = V ∧ _ := hw
  rw [hwF, hwV] at hP hD
  rcases hw with ⟨rfl, j4, hj4, ej4⟩ | ⟨rfl, noj4⟩
  · subst ej4
    refine lv_if_ne (tgt := 10) hx hb dX9_letter_5 (by decide) (fun _ => ?_) (fun c9 => absurd c9 (by decide))
    refine lv_aload_n hx hb dX9_letter_10 rfl (lv_at hl 0 rfl) ?_
    refine va_get (D := (dC, dI)) (ci := 10) (v := .ref (a 0)) (C := RX9) (T := TX9) (N := 46) hx hb hts in_m_letter_X9 hown hK hP 0 rfl rfl 0 (by decide) (hts (.fieldLink RX9 9 "ServiceTreeModel" "kind" "[I") (by decide +kernel)) (fun _ h9 => h9) rfl dX9_letter_11 ?_
    refine lv_iload_n hx hb dX9_letter_14 rfl (lv_at hl 1 rfl) ?_
    refine va_iald (n := 40) (f := F 0) hx hb hK hP 1 0 rfl rfl (vp_in_nI (n := j4) (by omega) (by decide)) dX9_letter_15 ?_
    refine lv_topi (fun x5 ex5 => ?_)
    refine lv_iconst (v := 2) hx hb dX9_letter_16 (by decide) ?_
    refine lv_icmp_eq (tgt := 23) hx hb dX9_letter_17 (by decide) (fun c6 => ?_) (fun c6 => ?_)
    · refine lv_aload_n hx hb dX9_letter_23 rfl (lv_at hl 0 rfl) ?_
      refine va_get (D := (dC, dI)) (ci := 10) (v := .ref (a 18)) (C := RX9) (T := TX9) (N := 46) hx hb hts in_m_letter_X9 hown hK hP 0 rfl rfl 18 (by decide) (hts (.fieldLink RX9 65 "ServiceTreeModel" "letterMany" "[I") (by decide +kernel)) (fun _ h9 => h9) rfl dX9_letter_24 ?_
      refine lv_iload_n hx hb dX9_letter_27 rfl (lv_at hl 1 rfl) ?_
      refine va_iald (n := 40) (f := F 18) hx hb hK hP 19 18 rfl rfl (vp_in_nI (n := j4) (by omega) (by decide)) dX9_letter_28 ?_
      refine lv_topi (fun x7 ex7 => ?_)
      rw [t18] at ex7
      obtain ⟨m8, hm8, qm8⟩ := hI.1.2.2.2.2.2.2.1 (nI j4).toNatClampNeg
      rw [t18] at qm8
      obtain rfl : x7 = nI m8 := ex7.trans qm8
      refine lv_bipush (v := 20) hx hb dX9_letter_29 (by decide) ?_
      refine lv_icmp_ne (tgt := 37) hx hb dX9_letter_31 (by decide) (fun c9 => ?_) (fun c9 => ?_)
      · replace c9 : ¬ (m8 = 20) := fun q9 => c9 ((nI_eq (a := m8) (b := 20) (by omega) (by omega)).mpr q9)
        refine lv_aload_n hx hb dX9_letter_37 rfl (lv_at hl 0 rfl) ?_
        refine va_get (D := (dC, dI)) (ci := 10) (v := .ref (a 17)) (C := RX9) (T := TX9) (N := 46) hx hb hts in_m_letter_X9 hown hK hP 0 rfl rfl 17 (by decide) (hts (.fieldLink RX9 62 "ServiceTreeModel" "letters" "[I") (by decide +kernel)) (fun _ h9 => h9) rfl dX9_letter_38 ?_
        refine lv_bipush (v := 20) hx hb dX9_letter_41 (by decide) ?_
        refine lv_iload_n hx hb dX9_letter_43 rfl (lv_at hl 1 rfl) ?_
        refine lv_imul hx hb dX9_letter_44 ?_
        refine p1_topr (v := .int (nI (20 * j4))) (congrArg Value.int (pk_mul 20 j4)) ?_
        refine lv_aload_n hx hb dX9_letter_45 rfl (lv_at hl 0 rfl) ?_
        refine va_get (D := (dC, dI)) (ci := 10) (v := .ref (a 18)) (C := RX9) (T := TX9) (N := 46) hx hb hts in_m_letter_X9 hown hK hP 0 rfl rfl 18 (by decide) (hts (.fieldLink RX9 65 "ServiceTreeModel" "letterMany" "[I") (by decide +kernel)) (fun _ h9 => h9) rfl dX9_letter_46 ?_
        refine lv_iload_n hx hb dX9_letter_49 rfl (lv_at hl 1 rfl) ?_
        refine va_iald (n := 40) (f := F 18) hx hb hK hP 19 18 rfl rfl (vp_in_nI (n := j4) (by omega) (by decide)) dX9_letter_50 ?_
        refine p1_topr (v := .int (nI m8)) (congrArg Value.int (by rw [t18]; exact qm8)) ?_
        refine lv_iadd hx hb dX9_letter_51 ?_
        refine p1_topr (v := .int (nI ((20 * j4) + m8))) (congrArg Value.int (nI_add (20 * j4) m8)) ?_
        refine lv_aload_n hx hb dX9_letter_52 rfl (lv_at hl 0 rfl) ?_
        refine va_get (D := (dC, dI)) (ci := 10) (v := .int (V 23)) (C := RX9) (T := TX9) (N := 46) hx hb hts in_m_letter_X9 hown hK hP 0 rfl rfl 23 (by decide) (hts (.fieldLink RX9 249 "ServiceTreeModel" "lettersAll" "I") (by decide +kernel)) (fun _ h9 => h9) rfl dX9_letter_53 ?_
        refine lv_topi (fun x11 ex11 => ?_)
        refine va_iast (n := 800) (f := F 17) hx hb hK hP hD hS 18 17 rfl rfl (vp_in_nI (n := (20 * j4) + m8) (by omega) (by decide)) dX9_letter_56 (fun H locs hP hD hS => ?_)
        rw [mW_set_17] at hP hD
        obtain ⟨F12, eF12⟩ : ∃ f9 : Nat → Nat → Int32, f9 = va_up F 17 (upd (F 17) (nI ((20 * j4) + m8)).toNatClampNeg x11) := ⟨_, rfl⟩
        rw [← eF12] at hP hD
        replace hI : StM n (b) F V F12 V := ⟨by rw [eF12]; exact hI.1.setF (by decide), trivial⟩
        replace hU : ∀ j : Nat, j ∉ ([7, 8, 9, 11, 12, 17, 18, 25, 26, 27, 28, 29, 30, 31, 32, 42, 43, 44] : List Nat) → F12 j = F j := by rw [eF12]; exact mw_up (by decide) hU
        replace t18 : F12 18 = F 18 := by rw [eF12]; exact (va_up_ne _ _ (by decide)).trans t18
        refine lv_aload_n hx hb dX9_letter_57 rfl (lv_at hl 0 rfl) ?_
        refine va_get (D := (dC, dI)) (ci := 10) (v := .ref (a 18)) (C := RX9) (T := TX9) (N := 46) hx hb hts in_m_letter_X9 hown hK hP 0 rfl rfl 18 (by decide) (hts (.fieldLink RX9 65 "ServiceTreeModel" "letterMany" "[I") (by decide +kernel)) (fun _ h9 => h9) rfl dX9_letter_58 ?_
        refine lv_iload_n hx hb dX9_letter_61 rfl (lv_at hl 1 rfl) ?_
        refine lv_dup2_11 hx hb dX9_letter_62 rfl rfl ?_
        refine va_iald (n := 40) (f := F12 18) hx hb hK hP 19 18 rfl rfl (vp_in_nI (n := j4) (by omega) (by decide)) dX9_letter_63 ?_
        refine p1_topr (v := .int (nI m8)) (congrArg Value.int (by rw [t18]; exact qm8)) ?_
        refine lv_iconst (v := 1) hx hb dX9_letter_64 (by decide) ?_
        refine lv_iadd hx hb dX9_letter_65 ?_
        refine p1_topr (v := .int (nI (m8 + 1))) (congrArg Value.int (nI_add m8 1)) ?_
        refine va_iast (n := 40) (f := F12 18) hx hb hK hP hD hS 19 18 rfl rfl (vp_in_nI (n := j4) (by omega) (by decide)) dX9_letter_66 (fun H locs hP hD hS => ?_)
        rw [mW_set_18] at hP hD
        obtain ⟨F14, eF14⟩ : ∃ f9 : Nat → Nat → Int32, f9 = va_up F12 18 (upd (F12 18) (nI j4).toNatClampNeg (nI (m8 + 1))) := ⟨_, rfl⟩
        rw [← eF14] at hP hD
        replace hI : StM n (b) F V F14 V := ⟨by rw [eF14]; exact hI.1.set18 (i := (nI j4).toNatClampNeg) (x := m8 + 1) (by omega), trivial⟩
        replace hU : ∀ j : Nat, j ∉ ([7, 8, 9, 11, 12, 17, 18, 25, 26, 27, 28, 29, 30, 31, 32, 42, 43, 44] : List Nat) → F14 j = F j := by rw [eF14]; exact mw_up (by decide) hU
        replace t18 : F14 18 = upd (F 18) (nI j4).toNatClampNeg (nI (m8 + 1)) := by rw [eF14, va_up_self, t18]
        refine lv_aload_n hx hb dX9_letter_67 rfl (lv_at hl 0 rfl) ?_
        refine lv_dup hx hb dX9_letter_68 rfl ?_
        refine va_get (D := (dC, dI)) (ci := 10) (v := .int (V 23)) (C := RX9) (T := TX9) (N := 46) hx hb hts in_m_letter_X9 hown hK hP 0 rfl rfl 23 (by decide) (hts (.fieldLink RX9 249 "ServiceTreeModel" "lettersAll" "I") (by decide +kernel)) (fun _ h9 => h9) rfl dX9_letter_69 ?_
        refine lv_topi (fun x15 ex15 => ?_)
        refine lv_iconst (v := 1) hx hb dX9_letter_72 (by decide) ?_
        refine lv_iadd hx hb dX9_letter_73 ?_
        refine lv_topi (fun x16 ex16 => ?_)
        refine va_put (D := (dC, dI)) (ci := 10) (fs := mF a V) (v := .int x16) (ty := .int) (C := RX9) (T := TX9) (N := 46) hx hb hts in_m_letter_X9 tyX9 tyX9_ok nmX9 hown hK hP hD hS 0 rfl rfl 23 (by decide) (hts (.fieldLink RX9 249 "ServiceTreeModel" "lettersAll" "I") (by decide +kernel)) (fun _ h9 => h9) rfl (by decide +kernel) rfl rfl (Nat.le_of_ble_eq_true rfl) dX9_letter_74 (fun H locs hP hD hS => ?_)
        rw [mW_put_23] at hP hD
        obtain ⟨V17, eV17⟩ : ∃ f9 : Nat → Int32, f9 = va_up V 23 x16 := ⟨_, rfl⟩
        rw [← eV17] at hP hD
        replace hI : StM n (b) F V F14 V17 := ⟨by rw [eV17]; exact hI.1.setV (by decide), trivial⟩
        replace hV : ∀ j : Nat, j ∉ ([23, 33, 45] : List Nat) → V17 j = V j := by rw [eV17]; exact mw_up (by decide) hV
        refine lv_aload_n hx hb dX9_letter_77 rfl (lv_at hl 0 rfl) ?_
        refine va_get (D := (dC, dI)) (ci := 10) (v := .ref (a 7)) (C := RX9) (T := TX9) (N := 46) hx hb hts in_m_letter_X9 hown hK hP 0 rfl rfl 7 (by decide) (hts (.fieldLink RX9 31 "ServiceTreeModel" "state" "[I") (by decide +kernel)) (fun _ h9 => h9) rfl dX9_letter_78 ?_
        refine lv_iload_n hx hb dX9_letter_81 rfl (lv_at hl 1 rfl) ?_
        refine va_iald (n := 40) (f := F14 7) hx hb hK hP 8 7 rfl rfl (vp_in_nI (n := j4) (by omega) (by decide)) dX9_letter_82 ?_
        refine lv_topi (fun x18 ex18 => ?_)
        refine lv_if_ne (tgt := 103) hx hb dX9_letter_83 (by decide) (fun c19 => ?_) (fun c19 => ?_)
        · refine lv_aload_n hx hb dX9_letter_103 rfl (lv_at hl 0 rfl) ?_
          refine va_get (D := (dC, dI)) (ci := 10) (v := .int (V17 23)) (C := RX9) (T := TX9) (N := 46) hx hb hts in_m_letter_X9 hown hK hP 0 rfl rfl 23 (by decide) (hts (.fieldLink RX9 249 "ServiceTreeModel" "lettersAll" "I") (by decide +kernel)) (fun _ h9 => h9) rfl dX9_letter_104 ?_
          refine p1_topr (v := .int x16) (congrArg Value.int (by rw [eV17]; exact va_up_self V 23 _)) ?_
          refine lv_iconst (v := 1) hx hb dX9_letter_107 (by decide) ?_
          refine lv_isub hx hb dX9_letter_108 ?_
          refine lv_topi (fun x20 ex20 => ?_)
          exact W.iret (v := x20) hx hb hr (fun t ht hW => ⟨⟨x20, (F14, V17), rfl, ⟨hI.mono (by omega), hU, hV, trivial⟩, by rw [ht]; exact hP, hD⟩, hS.F ht⟩) hS.2.2 dX9_letter_109
        · refine lv_aload_n hx hb dX9_letter_86 rfl (lv_at hl 0 rfl) ?_
          refine va_get (D := (dC, dI)) (ci := 10) (v := .int (V17 33)) (C := RX9) (T := TX9) (N := 46) hx hb hts in_m_letter_X9 hown hK hP 0 rfl rfl 33 (by decide) (hts (.fieldLink RX9 197 "ServiceTreeModel" "ring" "I") (by decide +kernel)) (fun _ h9 => h9) rfl dX9_letter_87 ?_
          refine lv_topi (fun x21 ex21 => ?_)
          refine lv_istore_n (lv' := [(2, .int x21), (0, .ref h), (1, .int (nI j4))]) hx hb dX9_letter_90 rfl hl (by decide) rfl (fun ls hl => ?_)
          refine lv_aload_n hx hb dX9_letter_91 rfl (lv_at hl 1 rfl) ?_
          refine lv_iconst (v := 0) hx hb dX9_letter_92 (by decide) ?_
          refine lv_iload_n hx hb dX9_letter_93 rfl (lv_at hl 2 rfl) ?_
          have hFc := mw_free hD hS hA
          refine va_calli (va_runV (As := [.int 0, .int (nI j4)]) (rest := []) ⟨hx, hb, hml, hown, hts⟩ (c_m_order l dC dI h a k F14 V17 n (b) 0 (nI j4) H.size hI.1 (by omega) ) (cwV 2 hts wc_m_letter_m_order_252 rfl rfl rfl (by decide +kernel) ⟨Nat.le_of_ble_eq_true rfl, Nat.le_of_ble_eq_true rfl⟩) ⟨fun a9 U g mk q => by obtain ⟨q0, q1, qP, qK, qD⟩ := q; exact ⟨q0, q1, qP, va_K.moved (u := U) (U := U.calling g mk a9) (Vm.Alike.refl U.vm) qK, qD⟩, va_recv hK hP (ci := 10) (q0 := 0) rfl rfl, fun U hU hW => ⟨rfl, by rw [hU], by rw [hU]; exact hP, va_K.moved hW.alike hK, hD.weaken (fun _ _ _ _ => trivial)⟩⟩ rfl rfl hl.1 rfl (lv_room (Nat.le_of_ble_eq_true rfl)) dX9_letter_94 ⟨Nat.le_of_ble_eq_true rfl, Nat.le_of_ble_eq_true rfl⟩) hS (fun q _ h => hFc q h) hFc (fun r22 u t H1 locs ht hvm hw hB hz1 hk1 hS => ?_)
          obtain ⟨F23, V24⟩ := u
          replace hP := hB.1
          rw [ht] at hP
          replace hD : va_D A (mW h a k F23 V24) := hB.2.weaken (fun _ q _ h9 => hFc q.1 h9)
          clear hB
          generalize H1 = H at hP hS ⊢
          replace hP : va_P (dC, dI) vwCl (mW h a k F23 V24) H := hP
          obtain ⟨hwI, hwU, hwV, hw⟩ := hw
          replace hU : ∀ j : Nat, j ∉ ([7, 8, 9, 11, 12, 17, 18, 25, 26, 27, 28, 29, 30, 31, 32, 42, 43, 44] : List Nat) → F23 j = F j := mw_tr (by decide) hwU hU
          replace hV : ∀ j : Nat, j ∉ ([23, 33, 45] : List Nat) → V24 j = V j := mw_tr (by decide) hwV hV
          replace hI : StM n (b + 162) F V F23 V24 := hI.trans hwI
          replace t18 : F23 18 = upd (F 18) (nI j4).toNatClampNeg (nI (m8 + 1)) := (hwU 18 (by decide)).trans t18
          refine lv_istore_n (lv' := [(3, .int r22), (2, .int x21), (0, .ref h), (1, .int (nI j4))]) hx hb dX9_letter_97 rfl hl (by decide) rfl (fun ls hl => ?_)
          refine lv_aload_n hx hb dX9_letter_98 rfl (lv_at hl 2 rfl) ?_
          refine lv_iload_n hx hb dX9_letter_99 rfl (lv_at hl 1 rfl) ?_
          refine va_put (D := (dC, dI)) (ci := 10) (fs := mF a V24) (v := .int x21) (ty := .int) (C := RX9) (T := TX9) (N := 46) hx hb hts in_m_letter_X9 tyX9 tyX9_ok nmX9 hown hK hP hD hS 0 rfl rfl 33 (by decide) (hts (.fieldLink RX9 197 "ServiceTreeModel" "ring" "I") (by decide +kernel)) (fun _ h9 => h9) rfl (by decide +kernel) rfl rfl (Nat.le_of_ble_eq_true rfl) dX9_letter_100 (fun H locs hP hD hS => ?_)
          rw [mW_put_33] at hP hD
          obtain ⟨V25, eV25⟩ : ∃ f9 : Nat → Int32, f9 = va_up V24 33 x21 := ⟨_, rfl⟩
          rw [← eV25] at hP hD
          replace hI : StM n (b + 162) F V F23 V25 := ⟨by rw [eV25]; exact hI.1.setV (by decide), trivial⟩
          replace hV : ∀ j : Nat, j ∉ ([23, 33, 45] : List Nat) → V25 j = V j := by rw [eV25]; exact mw_up (by decide) hV
          refine lv_aload_n hx hb dX9_letter_103 rfl (lv_at hl 2 rfl) ?_
          refine va_get (D := (dC, dI)) (ci := 10) (v := .int (V25 23)) (C := RX9) (T := TX9) (N := 46) hx hb hts in_m_letter_X9 hown hK hP 0 rfl rfl 23 (by decide) (hts (.fieldLink RX9 249 "ServiceTreeModel" "lettersAll" "I") (by decide +kernel)) (fun _ h9 => h9) rfl dX9_letter_104 ?_
          refine lv_topi (fun x26 ex26 => ?_)
          refine lv_iconst (v := 1) hx hb dX9_letter_107 (by decide) ?_
          refine lv_isub hx hb dX9_letter_108 ?_
          refine lv_topi (fun x27 ex27 => ?_)
          exact W.iret (v := x27) hx hb hr (fun t ht hW => ⟨⟨x27, (F23, V25), rfl, ⟨hI.mono (by omega), hU, hV, trivial⟩, by rw [ht]; exact hP, hD⟩, hS.F ht⟩) hS.2.2 dX9_letter_109
      · replace c9 : m8 = 20 := (nI_eq (a := m8) (b := 20) (by omega) (by omega)).mp c9
        refine lv_bipush (v := (-6)) hx hb dX9_letter_34 (by decide) ?_
        exact W.iret (v := (-6)) hx hb hr (fun t ht hW => ⟨⟨(-6), (F, V), rfl, ⟨hI.mono (by omega), hU, hV, trivial⟩, by rw [ht]; exact hP, hD⟩, hS.F ht⟩) hS.2.2 dX9_letter_36
    · refine lv_bipush (v := (-2)) hx hb dX9_letter_20 (by decide) ?_
      exact W.iret (v := (-2)) hx hb hr (fun t ht hW => ⟨⟨(-2), (F, V), rfl, ⟨hI.mono (by omega), hU, hV, trivial⟩, by rw [ht]; exact hP, hD⟩, hS.F ht⟩) hS.2.2 dX9_letter_22
  · refine lv_if_ne (tgt := 10) hx hb dX9_letter_5 (by decide) (fun c9 => absurd (by decide) c9) (fun _ => ?_)
    refine lv_iconst (v := (-1)) hx hb dX9_letter_8 (by decide) ?_
    exact W.iret (v := (-1)) hx hb hr (fun t ht hW => ⟨⟨(-1), (F, V), rfl, ⟨hI.mono (by omega), hU, hV, trivial⟩, by rw [ht]; exact hP, hD⟩, hS.F ht⟩) hS.2.2 dX9_letter_9
