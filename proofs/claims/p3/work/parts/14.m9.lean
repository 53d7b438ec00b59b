theorem dX9_oneTick_0 : decode cX9_oneTick 0 = .ok (.aload_n 0, 1) := by decide +kernel
theorem dX9_oneTick_1 : decode cX9_oneTick 1 = .ok (.dup, 1) := by decide +kernel
theorem dX9_oneTick_2 : decode cX9_oneTick 2 = .ok (.getfield 129, 3) := by decide +kernel
theorem dX9_oneTick_5 : decode cX9_oneTick 5 = .ok (.iconst 1, 1) := by decide +kernel
theorem dX9_oneTick_6 : decode cX9_oneTick 6 = .ok (.iadd, 1) := by decide +kernel
theorem dX9_oneTick_7 : decode cX9_oneTick 7 = .ok (.putfield 129, 3) := by decide +kernel
theorem dX9_oneTick_10 : decode cX9_oneTick 10 = .ok (.iconst 0, 1) := by decide +kernel
theorem dX9_oneTick_11 : decode cX9_oneTick 11 = .ok (.istore_n 1, 1) := by decide +kernel
theorem dX9_oneTick_12 : decode cX9_oneTick 12 = .ok (.iload_n 1, 1) := by decide +kernel
theorem dX9_oneTick_13 : decode cX9_oneTick 13 = .ok (.aload_n 0, 1) := by decide +kernel
theorem dX9_oneTick_14 : decode cX9_oneTick 14 = .ok (.getfield 126, 3) := by decide +kernel
theorem dX9_oneTick_17 : decode cX9_oneTick 17 = .ok (.if_icmp .ge 14, 3) := by decide +kernel
theorem dX9_oneTick_20 : decode cX9_oneTick 20 = .ok (.aload_n 0, 1) := by decide +kernel
theorem dX9_oneTick_21 : decode cX9_oneTick 21 = .ok (.iload_n 1, 1) := by decide +kernel
theorem dX9_oneTick_22 : decode cX9_oneTick 22 = .ok (.invokevirtual 240, 3) := by decide +kernel
theorem dX9_oneTick_25 : decode cX9_oneTick 25 = .ok (.iinc 1 1, 3) := by decide +kernel
theorem dX9_oneTick_28 : decode cX9_oneTick 28 = .ok (.goto (-16), 3) := by decide +kernel
theorem dX9_oneTick_31 : decode cX9_oneTick 31 = .ok (.iconst 0, 1) := by decide +kernel
theorem dX9_oneTick_32 : decode cX9_oneTick 32 = .ok (.istore_n 1, 1) := by decide +kernel
theorem dX9_oneTick_33 : decode cX9_oneTick 33 = .ok (.iload_n 1, 1) := by decide +kernel
theorem dX9_oneTick_34 : decode cX9_oneTick 34 = .ok (.aload_n 0, 1) := by decide +kernel
theorem dX9_oneTick_35 : decode cX9_oneTick 35 = .ok (.getfield 126, 3) := by decide +kernel
theorem dX9_oneTick_38 : decode cX9_oneTick 38 = .ok (.if_icmp .ge 61, 3) := by decide +kernel
theorem dX9_oneTick_41 : decode cX9_oneTick 41 = .ok (.aload_n 0, 1) := by decide +kernel
theorem dX9_oneTick_42 : decode cX9_oneTick 42 = .ok (.getfield 31, 3) := by decide +kernel
theorem dX9_oneTick_45 : decode cX9_oneTick 45 = .ok (.iload_n 1, 1) := by decide +kernel
theorem dX9_oneTick_46 : decode cX9_oneTick 46 = .ok (.iaload, 1) := by decide +kernel
theorem dX9_oneTick_47 : decode cX9_oneTick 47 = .ok (.iconst 1, 1) := by decide +kernel
theorem dX9_oneTick_48 : decode cX9_oneTick 48 = .ok (.if_icmp .eq 13, 3) := by decide +kernel
theorem dX9_oneTick_51 : decode cX9_oneTick 51 = .ok (.aload_n 0, 1) := by decide +kernel
theorem dX9_oneTick_52 : decode cX9_oneTick 52 = .ok (.getfield 31, 3) := by decide +kernel
theorem dX9_oneTick_55 : decode cX9_oneTick 55 = .ok (.iload_n 1, 1) := by decide +kernel
theorem dX9_oneTick_56 : decode cX9_oneTick 56 = .ok (.iaload, 1) := by decide +kernel
theorem dX9_oneTick_57 : decode cX9_oneTick 57 = .ok (.iconst 2, 1) := by decide +kernel
theorem dX9_oneTick_58 : decode cX9_oneTick 58 = .ok (.if_icmp .ne 35, 3) := by decide +kernel
theorem dX9_oneTick_61 : decode cX9_oneTick 61 = .ok (.aload_n 0, 1) := by decide +kernel
theorem dX9_oneTick_62 : decode cX9_oneTick 62 = .ok (.iload_n 1, 1) := by decide +kernel
theorem dX9_oneTick_63 : decode cX9_oneTick 63 = .ok (.invokevirtual 231, 3) := by decide +kernel
theorem dX9_oneTick_66 : decode cX9_oneTick 66 = .ok (.ifCond .ne 27, 3) := by decide +kernel
theorem dX9_oneTick_69 : decode cX9_oneTick 69 = .ok (.aload_n 0, 1) := by decide +kernel
theorem dX9_oneTick_70 : decode cX9_oneTick 70 = .ok (.iload_n 1, 1) := by decide +kernel
theorem dX9_oneTick_71 : decode cX9_oneTick 71 = .ok (.aload_n 0, 1) := by decide +kernel
theorem dX9_oneTick_72 : decode cX9_oneTick 72 = .ok (.getfield 16, 3) := by decide +kernel
theorem dX9_oneTick_75 : decode cX9_oneTick 75 = .ok (.iload_n 1, 1) := by decide +kernel
theorem dX9_oneTick_76 : decode cX9_oneTick 76 = .ok (.iaload, 1) := by decide +kernel
theorem dX9_oneTick_77 : decode cX9_oneTick 77 = .ok (.ifCond .ne 7, 3) := by decide +kernel
theorem dX9_oneTick_80 : decode cX9_oneTick 80 = .ok (.iconst 0, 1) := by decide +kernel
theorem dX9_oneTick_81 : decode cX9_oneTick 81 = .ok (.goto 4, 3) := by decide +kernel
theorem dX9_oneTick_84 : decode cX9_oneTick 84 = .ok (.iconst 3, 1) := by decide +kernel
theorem dX9_oneTick_85 : decode cX9_oneTick 85 = .ok (.invokevirtual 211, 3) := by decide +kernel
theorem dX9_oneTick_88 : decode cX9_oneTick 88 = .ok (.iconst 0, 1) := by decide +kernel
theorem dX9_oneTick_89 : decode cX9_oneTick 89 = .ok (.istore_n 1, 1) := by decide +kernel
theorem dX9_oneTick_90 : decode cX9_oneTick 90 = .ok (.goto (-57), 3) := by decide +kernel
theorem dX9_oneTick_93 : decode cX9_oneTick 93 = .ok (.iinc 1 1, 3) := by decide +kernel
theorem dX9_oneTick_96 : decode cX9_oneTick 96 = .ok (.goto (-63), 3) := by decide +kernel
theorem dX9_oneTick_99 : decode cX9_oneTick 99 = .ok (.iconst 0, 1) := by decide +kernel
theorem dX9_oneTick_100 : decode cX9_oneTick 100 = .ok (.istore_n 2, 1) := by decide +kernel
theorem dX9_oneTick_101 : decode cX9_oneTick 101 = .ok (.iload_n 2, 1) := by decide +kernel
theorem dX9_oneTick_102 : decode cX9_oneTick 102 = .ok (.aload_n 0, 1) := by decide +kernel
theorem dX9_oneTick_103 : decode cX9_oneTick 103 = .ok (.getfield 126, 3) := by decide +kernel
theorem dX9_oneTick_106 : decode cX9_oneTick 106 = .ok (.if_icmp .ge 125, 3) := by decide +kernel
theorem dX9_oneTick_109 : decode cX9_oneTick 109 = .ok (.aload_n 0, 1) := by decide +kernel
theorem dX9_oneTick_110 : decode cX9_oneTick 110 = .ok (.getfield 9, 3) := by decide +kernel
theorem dX9_oneTick_113 : decode cX9_oneTick 113 = .ok (.iload_n 2, 1) := by decide +kernel
theorem dX9_oneTick_114 : decode cX9_oneTick 114 = .ok (.iaload, 1) := by decide +kernel
theorem dX9_oneTick_115 : decode cX9_oneTick 115 = .ok (.iconst 2, 1) := by decide +kernel
theorem dX9_oneTick_116 : decode cX9_oneTick 116 = .ok (.if_icmp .ne 109, 3) := by decide +kernel
theorem dX9_oneTick_119 : decode cX9_oneTick 119 = .ok (.aload_n 0, 1) := by decide +kernel
theorem dX9_oneTick_120 : decode cX9_oneTick 120 = .ok (.getfield 31, 3) := by decide +kernel
theorem dX9_oneTick_123 : decode cX9_oneTick 123 = .ok (.iload_n 2, 1) := by decide +kernel
theorem dX9_oneTick_124 : decode cX9_oneTick 124 = .ok (.iaload, 1) := by decide +kernel
theorem dX9_oneTick_125 : decode cX9_oneTick 125 = .ok (.iconst 2, 1) := by decide +kernel
theorem dX9_oneTick_126 : decode cX9_oneTick 126 = .ok (.if_icmp .ne 99, 3) := by decide +kernel
theorem dX9_oneTick_129 : decode cX9_oneTick 129 = .ok (.aload_n 0, 1) := by decide +kernel
theorem dX9_oneTick_130 : decode cX9_oneTick 130 = .ok (.getfield 65, 3) := by decide +kernel
theorem dX9_oneTick_133 : decode cX9_oneTick 133 = .ok (.iload_n 2, 1) := by decide +kernel
theorem dX9_oneTick_134 : decode cX9_oneTick 134 = .ok (.iaload, 1) := by decide +kernel
theorem dX9_oneTick_135 : decode cX9_oneTick 135 = .ok (.ifCond .le 90, 3) := by decide +kernel
theorem dX9_oneTick_138 : decode cX9_oneTick 138 = .ok (.aload_n 0, 1) := by decide +kernel
theorem dX9_oneTick_139 : decode cX9_oneTick 139 = .ok (.getfield 59, 3) := by decide +kernel
theorem dX9_oneTick_142 : decode cX9_oneTick 142 = .ok (.iload_n 2, 1) := by decide +kernel
theorem dX9_oneTick_143 : decode cX9_oneTick 143 = .ok (.aload_n 0, 1) := by decide +kernel
theorem dX9_oneTick_144 : decode cX9_oneTick 144 = .ok (.getfield 62, 3) := by decide +kernel
theorem dX9_oneTick_147 : decode cX9_oneTick 147 = .ok (.bipush 20, 2) := by decide +kernel
theorem dX9_oneTick_149 : decode cX9_oneTick 149 = .ok (.iload_n 2, 1) := by decide +kernel
theorem dX9_oneTick_150 : decode cX9_oneTick 150 = .ok (.imul, 1) := by decide +kernel
theorem dX9_oneTick_151 : decode cX9_oneTick 151 = .ok (.iaload, 1) := by decide +kernel
theorem dX9_oneTick_152 : decode cX9_oneTick 152 = .ok (.iastore, 1) := by decide +kernel
theorem dX9_oneTick_153 : decode cX9_oneTick 153 = .ok (.aload_n 0, 1) := by decide +kernel
theorem dX9_oneTick_154 : decode cX9_oneTick 154 = .ok (.getfield 65, 3) := by decide +kernel
theorem dX9_oneTick_157 : decode cX9_oneTick 157 = .ok (.iload_n 2, 1) := by decide +kernel
theorem dX9_oneTick_158 : decode cX9_oneTick 158 = .ok (.dup2, 1) := by decide +kernel
theorem dX9_oneTick_159 : decode cX9_oneTick 159 = .ok (.iaload, 1) := by decide +kernel
theorem dX9_oneTick_160 : decode cX9_oneTick 160 = .ok (.iconst 1, 1) := by decide +kernel
theorem dX9_oneTick_161 : decode cX9_oneTick 161 = .ok (.isub, 1) := by decide +kernel
theorem dX9_oneTick_162 : decode cX9_oneTick 162 = .ok (.iastore, 1) := by decide +kernel
theorem dX9_oneTick_163 : decode cX9_oneTick 163 = .ok (.iconst 0, 1) := by decide +kernel
theorem dX9_oneTick_164 : decode cX9_oneTick 164 = .ok (.istore_n 3, 1) := by decide +kernel
theorem dX9_oneTick_165 : decode cX9_oneTick 165 = .ok (.iload_n 3, 1) := by decide +kernel
theorem dX9_oneTick_166 : decode cX9_oneTick 166 = .ok (.aload_n 0, 1) := by decide +kernel
theorem dX9_oneTick_167 : decode cX9_oneTick 167 = .ok (.getfield 65, 3) := by decide +kernel
theorem dX9_oneTick_170 : decode cX9_oneTick 170 = .ok (.iload_n 2, 1) := by decide +kernel
theorem dX9_oneTick_171 : decode cX9_oneTick 171 = .ok (.iaload, 1) := by decide +kernel
theorem dX9_oneTick_172 : decode cX9_oneTick 172 = .ok (.if_icmp .ge 33, 3) := by decide +kernel
theorem dX9_oneTick_175 : decode cX9_oneTick 175 = .ok (.aload_n 0, 1) := by decide +kernel
theorem dX9_oneTick_176 : decode cX9_oneTick 176 = .ok (.getfield 62, 3) := by decide +kernel
theorem dX9_oneTick_179 : decode cX9_oneTick 179 = .ok (.bipush 20, 2) := by decide +kernel
theorem dX9_oneTick_181 : decode cX9_oneTick 181 = .ok (.iload_n 2, 1) := by decide +kernel
theorem dX9_oneTick_182 : decode cX9_oneTick 182 = .ok (.imul, 1) := by decide +kernel
theorem dX9_oneTick_183 : decode cX9_oneTick 183 = .ok (.iload_n 3, 1) := by decide +kernel
theorem dX9_oneTick_184 : decode cX9_oneTick 184 = .ok (.iadd, 1) := by decide +kernel
theorem dX9_oneTick_185 : decode cX9_oneTick 185 = .ok (.aload_n 0, 1) := by decide +kernel
theorem dX9_oneTick_186 : decode cX9_oneTick 186 = .ok (.getfield 62, 3) := by decide +kernel
theorem dX9_oneTick_189 : decode cX9_oneTick 189 = .ok (.bipush 20, 2) := by decide +kernel
theorem dX9_oneTick_191 : decode cX9_oneTick 191 = .ok (.iload_n 2, 1) := by decide +kernel
theorem dX9_oneTick_192 : decode cX9_oneTick 192 = .ok (.imul, 1) := by decide +kernel
theorem dX9_oneTick_193 : decode cX9_oneTick 193 = .ok (.iload_n 3, 1) := by decide +kernel
theorem dX9_oneTick_194 : decode cX9_oneTick 194 = .ok (.iadd, 1) := by decide +kernel
theorem dX9_oneTick_195 : decode cX9_oneTick 195 = .ok (.iconst 1, 1) := by decide +kernel
theorem dX9_oneTick_196 : decode cX9_oneTick 196 = .ok (.iadd, 1) := by decide +kernel
theorem dX9_oneTick_197 : decode cX9_oneTick 197 = .ok (.iaload, 1) := by decide +kernel
theorem dX9_oneTick_198 : decode cX9_oneTick 198 = .ok (.iastore, 1) := by decide +kernel
theorem dX9_oneTick_199 : decode cX9_oneTick 199 = .ok (.iinc 3 1, 3) := by decide +kernel
theorem dX9_oneTick_202 : decode cX9_oneTick 202 = .ok (.goto (-37), 3) := by decide +kernel
theorem dX9_oneTick_205 : decode cX9_oneTick 205 = .ok (.aload_n 0, 1) := by decide +kernel
theorem dX9_oneTick_206 : decode cX9_oneTick 206 = .ok (.getfield 56, 3) := by decide +kernel
theorem dX9_oneTick_209 : decode cX9_oneTick 209 = .ok (.iload_n 2, 1) := by decide +kernel
theorem dX9_oneTick_210 : decode cX9_oneTick 210 = .ok (.dup2, 1) := by decide +kernel
theorem dX9_oneTick_211 : decode cX9_oneTick 211 = .ok (.iaload, 1) := by decide +kernel
theorem dX9_oneTick_212 : decode cX9_oneTick 212 = .ok (.iconst 1, 1) := by decide +kernel
theorem dX9_oneTick_213 : decode cX9_oneTick 213 = .ok (.iadd, 1) := by decide +kernel
theorem dX9_oneTick_214 : decode cX9_oneTick 214 = .ok (.iastore, 1) := by decide +kernel
theorem dX9_oneTick_215 : decode cX9_oneTick 215 = .ok (.aload_n 0, 1) := by decide +kernel
theorem dX9_oneTick_216 : decode cX9_oneTick 216 = .ok (.dup, 1) := by decide +kernel
theorem dX9_oneTick_217 : decode cX9_oneTick 217 = .ok (.getfield 243, 3) := by decide +kernel
theorem dX9_oneTick_220 : decode cX9_oneTick 220 = .ok (.iconst 1, 1) := by decide +kernel
theorem dX9_oneTick_221 : decode cX9_oneTick 221 = .ok (.iadd, 1) := by decide +kernel
theorem dX9_oneTick_222 : decode cX9_oneTick 222 = .ok (.putfield 243, 3) := by decide +kernel
theorem dX9_oneTick_225 : decode cX9_oneTick 225 = .ok (.iinc 2 1, 3) := by decide +kernel
theorem dX9_oneTick_228 : decode cX9_oneTick 228 = .ok (.goto (-127), 3) := by decide +kernel
theorem dX9_oneTick_231 : decode cX9_oneTick 231 = .ok (.aload_n 0, 1) := by decide +kernel
theorem dX9_oneTick_232 : decode cX9_oneTick 232 = .ok (.invokevirtual 215, 3) := by decide +kernel
theorem dX9_oneTick_235 : decode cX9_oneTick 235 = .ok (.return_, 1) := by decide +kernel
theorem dX9_tick_0 : decode cX9_tick 0 = .ok (.iload_n 1, 1) := by decide +kernel
theorem dX9_tick_1 : decode cX9_tick 1 = .ok (.iconst 1, 1) := by decide +kernel
theorem dX9_tick_2 : decode cX9_tick 2 = .ok (.if_icmp .lt 10, 3) := by decide +kernel
theorem dX9_tick_5 : decode cX9_tick 5 = .ok (.iload_n 1, 1) := by decide +kernel
theorem dX9_tick_6 : decode cX9_tick 6 = .ok (.sipush 1000, 3) := by decide +kernel
theorem dX9_tick_9 : decode cX9_tick 9 = .ok (.if_icmp .le 5, 3) := by decide +kernel
theorem dX9_tick_12 : decode cX9_tick 12 = .ok (.iconst (-1), 1) := by decide +kernel
theorem dX9_tick_13 : decode cX9_tick 13 = .ok (.ireturn, 1) := by decide +kernel
theorem dX9_tick_14 : decode cX9_tick 14 = .ok (.iconst 0, 1) := by decide +kernel
theorem dX9_tick_15 : decode cX9_tick 15 = .ok (.istore_n 2, 1) := by decide +kernel
theorem dX9_tick_16 : decode cX9_tick 16 = .ok (.iload_n 2, 1) := by decide +kernel
theorem dX9_tick_17 : decode cX9_tick 17 = .ok (.iload_n 1, 1) := by decide +kernel
theorem dX9_tick_18 : decode cX9_tick 18 = .ok (.if_icmp .ge 13, 3) := by decide +kernel
theorem dX9_tick_21 : decode cX9_tick 21 = .ok (.aload_n 0, 1) := by decide +kernel
theorem dX9_tick_22 : decode cX9_tick 22 = .ok (.invokevirtual 246, 3) := by decide +kernel
theorem dX9_tick_25 : decode cX9_tick 25 = .ok (.iinc 2 1, 3) := by decide +kernel
theorem dX9_tick_28 : decode cX9_tick 28 = .ok (.goto (-12), 3) := by decide +kernel
theorem dX9_tick_31 : decode cX9_tick 31 = .ok (.aload_n 0, 1) := by decide +kernel
theorem dX9_tick_32 : decode cX9_tick 32 = .ok (.getfield 129, 3) := by decide +kernel
theorem dX9_tick_35 : decode cX9_tick 35 = .ok (.ireturn, 1) := by decide +kernel
def wq_m_oneTick : List Cond := [.code yX9_oneTick cX9_oneTick 4 none, .fieldLink RX9 129 "ServiceTreeModel" "tick" "I", .fieldLink RX9 126 "ServiceTreeModel" "services" "I", .fieldLink RX9 9 "ServiceTreeModel" "kind" "[I", .fieldLink RX9 31 "ServiceTreeModel" "state" "[I", .fieldLink RX9 65 "ServiceTreeModel" "letterMany" "[I", .fieldLink RX9 59 "ServiceTreeModel" "readLast" "[I", .fieldLink RX9 62 "ServiceTreeModel" "letters" "[I", .fieldLink RX9 56 "ServiceTreeModel" "read" "[I", .fieldLink RX9 243 "ServiceTreeModel" "readAll" "I", .fieldLink RX9 16 "ServiceTreeModel" "stop" "[I", .methodLink RX9 215 yX9_begin, .instanceMethod yX9_begin, .selects RX9 yX9_begin yX9_begin, .initialized RX9, .methodLink RX9 231 yX9_hasNeeds, .instanceMethod yX9_hasNeeds, .selects RX9 yX9_hasNeeds yX9_hasNeeds, .methodLink RX9 211 yX9_to, .instanceMethod yX9_to, .selects RX9 yX9_to yX9_to, .methodLink RX9 240 yX9_step, .instanceMethod yX9_step, .selects RX9 yX9_step yX9_step] ++ (wsX90 ++ (wq_m_begin ++ (wq_m_hasNeeds ++ (wq_m_to ++ (wq_m_step)))))
theorem in_m_oneTick_X9 : ∀ w ∈ wsX90, w ∈ wq_m_oneTick := fun _ h => List.mem_append_right _ (List.mem_append_left _ (h))
set_option maxRecDepth 20000 in
theorem wi_m_oneTick : ∀ w ∈ wq_m_oneTick, w ∈ lw_tbl := List.forall_mem_append.mpr ⟨(by decide +kernel), List.forall_mem_append.mpr ⟨inKX9, List.forall_mem_append.mpr ⟨wi_m_begin, List.forall_mem_append.mpr ⟨wi_m_hasNeeds, List.forall_mem_append.mpr ⟨wi_m_to, wi_m_step⟩⟩⟩⟩⟩
set_option maxRecDepth 20000 in
theorem wg_m_oneTick : GoodIn wq_m_oneTick wq_m_oneTick := goodIn_sub (fun _ h => h) (by decide +kernel)
set_option maxRecDepth 20000 in
theorem wc_m_oneTick_m_begin_215 : GoodIn wq_m_oneTick (wsV RX9 215 RX9 yX9_begin wq_m_begin) := goodIn_app (goodIn_of _ (by decide +kernel)) (fun w h => ⟨List.mem_append_right _ (List.mem_append_right _ (List.mem_append_left _ (h))), (wg_m_begin w h).2⟩)
set_option maxRecDepth 20000 in
theorem wc_m_oneTick_m_hasNeeds_231 : GoodIn wq_m_oneTick (wsV RX9 231 RX9 yX9_hasNeeds wq_m_hasNeeds) := goodIn_app (goodIn_of _ (by decide +kernel)) (fun w h => ⟨List.mem_append_right _ (List.mem_append_right _ (List.mem_append_right _ (List.mem_append_left _ (h)))), (wg_m_hasNeeds w h).2⟩)
set_option maxRecDepth 20000 in
theorem wc_m_oneTick_m_to_211 : GoodIn wq_m_oneTick (wsV RX9 211 RX9 yX9_to wq_m_to) := goodIn_app (goodIn_of _ (by decide +kernel)) (fun w h => ⟨List.mem_append_right _ (List.mem_append_right _ (List.mem_append_right _ (List.mem_append_right _ (List.mem_append_left _ (h))))), (wg_m_to w h).2⟩)
set_option maxRecDepth 20000 in
theorem wc_m_oneTick_m_step_240 : GoodIn wq_m_oneTick (wsV RX9 240 RX9 yX9_step wq_m_step) := goodIn_app (goodIn_of _ (by decide +kernel)) (fun w h => ⟨List.mem_append_right _ (List.mem_append_right _ (List.mem_append_right _ (List.mem_append_right _ (List.mem_append_right _ (h))))), (wg_m_step w h).2⟩)
def rm_m_oneTick : Room := { frames := 4, cells := 0, slots := 0, locals := 91 }
set_option maxHeartbeats 4000000 in
set_option maxRecDepth 100000 in
theorem c_m_oneTick (l : Launch) (dC : Nat → ClassId) (dI : Nat → Nat → Nat) (h : Nat) (a : Nat → Nat) (k : Nat → ClassId) (F : Nat → Nat → Int32) (V : Nat → Int32) (n b : Nat)  (sz : Nat) (hI0 : InvM n b F V) (hb0 : b + 402 < 2147483648)  : Met l yX9_oneTick wq_m_oneTick rm_m_oneTick (va_Pc [.ref h] (fun U => U.heap.size = sz ∧ va_P (dC, dI) vwCl (mW h a k F V) U.heap ∧ va_K (dC, dI) vwCl (mT k) U ∧ va_D (fun _ => True) (mW h a k F V))) (va_Qv (fun (u : (Nat → Nat → Int32) × (Nat → Int32)) => StM n (b + 402) F V u.1 u.2 ∧ (∀ j : Nat, j ∉ ([7, 8, 9, 10, 11, 12, 13, 14, 15, 16, 17, 18, 25, 26, 42, 43, 44] : List Nat) → u.1 j = F j) ∧ (∀ j : Nat, j ∉ ([22, 24, 45] : List Nat) → u.2 j = V j) ∧ (u.2 22 = V 22 + 1)) (fun (u : (Nat → Nat → Int32) × (Nat → Int32)) (t : State) => va_P (dC, dI) vwCl (mW h a k u.1 u.2) t.heap ∧ va_D (va_A (mW h a k F V) sz) (mW h a k u.1 u.2)) (va_A (mW h a k F V) sz)) 0 0 (va_A (mW h a k F V) sz) := by
  have hn : n ≤ 40 := hI0.1
  have hI : StM n b F V F V := StM.rf hI0
  have hU : ∀ j : Nat, j ∉ ([7, 8, 9, 10, 11, 12, 13, 14, 15, 16, 17, 18, 25, 26, 42, 43, 44] : List Nat) → F j = F j := fun _ _ => rfl
  have hV : ∀ j : Nat, j ∉ ([22, 24, 45] : List Nat) → V j = V j := fun _ _ => rfl
  refine Met.ofW (cc := cX9_oneTick) (maxL := 4) (ret := none) (by decide) rfl ?_
  intro p e s m args below meth c s₁ B hml hv
  obtain ⟨rfl, hsz, hP, hK, hD0⟩ := hv
  have hx := B.exec
  have hb := B.bytes
  have hr := B.returns
  have hts := atoms_spec (ws := wq_m_oneTick) B.pre
  have hown : s.vm.findClass RX9 = some m.cls := findClass_of_methodNamed B.named
  have hlocks := B.notSynchronized
  subst hsz
  have hD := hD0.self (sz := s.heap.size)
  generalize hAe : va_A (mW h a k F V) s.heap.size = A at hD ⊢
  have hA : ∀ q : Nat, s.heap.size ≤ q → A q := fun q h => by rw [← hAe]; exact Or.inr h
  have hS : va_S A s.heap s.heap [] := va_S.rf
  have hl := lv_entry ([.ref h]) (n := 4) (Nat.le_of_ble_eq_true rfl)
  rw [lg_entry_eq]
  generalize (lg_sl ([.ref h]) ++ List.replicate (4 - (lg_sl ([.ref h])).length) Slot.unset).toArray = ls at hl ⊢
  have hl : lv_has ls 4 [(0, .ref h)] := hl
  refine mw_Q (fun Q0 hQ => ?_)
  have tv22 : V 22 = V 22 := rfl
  have t18 : F 18 = F 18 := rfl
  refine lv_aload_n hx hb dX9_oneTick_0 rfl (lv_at hl 0 rfl) ?_
  refine lv_dup hx hb dX9_oneTick_1 rfl ?_
  refine va_get (D := (dC, dI)) (ci := 10) (v := .int (V 22)) (C := RX9) (T := TX9) (N := 46) hx hb hts in_m_oneTick_X9 hown hK hP 0 rfl rfl 22 (by decide) (hts (.fieldLink RX9 129 "ServiceTreeModel" "tick" "I") (by decide +kernel)) (fun _ h9 => h9) rfl dX9_oneTick_2 ?_
  refine lv_topi (fun x1 ex1 => ?_)
  refine lv_iconst (v := 1) hx hb dX9_oneTick_5 (by decide) ?_
  refine lv_iadd hx hb dX9_oneTick_6 ?_
  refine lv_topi (fun x2 ex2 => ?_)
  obtain rfl : x2 = V 22 + 1 := ex2.trans (by rw [ex1])
  refine va_put (D := (dC, dI)) (ci := 10) (fs := mF a V) (v := .int (V 22 + 1)) (ty := .int) (C := RX9) (T := TX9) (N := 46) hx hb hts in_m_oneTick_X9 tyX9 tyX9_ok nmX9 hown hK hP hD hS 0 rfl rfl 22 (by decide) (hts (.fieldLink RX9 129 "ServiceTreeModel" "tick" "I") (by decide +kernel)) (fun _ h9 => h9) rfl (by decide +kernel) rfl rfl (Nat.le_of_ble_eq_true rfl) dX9_oneTick_7 (fun H locs hP hD hS => ?_)
  rw [mW_put_22] at hP hD
  obtain ⟨V3, eV3⟩ : ∃ f9 : Nat → Int32, f9 = va_up V 22 (V 22 + 1) := ⟨_, rfl⟩
  rw [← eV3] at hP hD
  replace hI : StM n (b) F V F V3 := ⟨by rw [eV3]; exact hI.1.setV (by decide), trivial⟩
  replace hV : ∀ j : Nat, j ∉ ([22, 24, 45] : List Nat) → V3 j = V j := by rw [eV3]; exact mw_up (by decide) hV
  have tv22 : V3 22 = V 22 + 1 := by rw [eV3]; exact va_up_self V 22 _
  refine lv_iconst (v := 0) hx hb dX9_oneTick_10 (by decide) ?_
  refine lv_istore_n (lv' := [(1, .int 0), (0, .ref h)]) hx hb dX9_oneTick_11 rfl hl (by decide) rfl (fun ls hl => ?_)
  have lp7 : ∀ (fu5 i4 : Nat)  (F8 : Nat → Nat → Int32) (V9 : Nat → Int32) (H : Heap) (locs : List Loc) (ls : Array Slot), n < i4 + fu5 → i4 ≤ n → StM n (b + 6 * i4) F V F8 V9 → (∀ j : Nat, j ∉ ([7, 8, 9, 10, 11, 12, 13, 14, 15, 16, 17, 18, 25, 26, 42, 43, 44] : List Nat) → F8 j = F j) → (∀ j : Nat, j ∉ ([22, 24, 45] : List Nat) → V9 j = V j) → V9 22 = V 22 + 1 → F8 18 = F 18 → va_P (dC, dI) vwCl (mW h a k F8 V9) H → va_D A (mW h a k F8 V9) → va_S A s.heap H locs → lv_has ls 4 [(1, .int (nI i4)), (0, .ref h)] → W p l e (headSpec wq_m_oneTick rm_m_oneTick).room s m ([.ref h] : List Value).toArray below meth c H locs 0 0 Q0 (F0 m 12 ls []) := by
    intro fu5
    induction fu5 with
    | zero =>
      intro i4  F8 V9 H locs ls hf hi
      exact absurd hf (by omega)
    | succ fu5 ih6 =>
      intro i4  F8 V9 H locs ls hfi4 hii4 hI hU hV tv22qi4 t18qi4 hP hD hS hl
      have tv22 := tv22qi4
      have t18 := t18qi4
      refine lv_iload_n hx hb dX9_oneTick_12 rfl (lv_at hl 0 rfl) ?_
      refine lv_aload_n hx hb dX9_oneTick_13 rfl (lv_at hl 1 rfl) ?_
      refine va_get (D := (dC, dI)) (ci := 10) (v := .int (V9 21)) (C := RX9) (T := TX9) (N := 46) hx hb hts in_m_oneTick_X9 hown hK hP 0 rfl rfl 21 (by decide) (hts (.fieldLink RX9 126 "ServiceTreeModel" "services" "I") (by decide +kernel)) (fun _ h9 => h9) rfl dX9_oneTick_14 ?_
      refine p1_topr (v := .int (nI n)) (congrArg Value.int hI.1.2.1) ?_
      refine lv_icmp_ge (tgt := 31) hx hb dX9_oneTick_17 (by decide) (fun c10 => ?_) (fun c10 => ?_)
      · replace c10 : n ≤ i4 := (nI_leI (a := n) (b := i4) (by omega) (by omega)).mp c10
        refine lv_iconst (v := 0) hx hb dX9_oneTick_31 (by decide) ?_
        refine lv_istore_n (lv' := [(1, .int 0), (0, .ref h)]) hx hb dX9_oneTick_32 rfl hl (by decide) rfl (fun ls hl => ?_)
        have lp14 : ∀ (fu12 i11 : Nat) (s17 : Nat)  (F15 : Nat → Nat → Int32) (V16 : Nat → Int32) (H : Heap) (locs : List Loc) (ls : Array Slot), zc (nu (F15 7)) 40 * 41 + (n - s17) < fu12 → i11 ≤ i11 → StM n (b + 6 * i4 + 2 * i11) F V F15 V16 → (∀ j : Nat, j ∉ ([7, 8, 9, 10, 11, 12, 13, 14, 15, 16, 17, 18, 25, 26, 42, 43, 44] : List Nat) → F15 j = F j) → (∀ j : Nat, j ∉ ([22, 24, 45] : List Nat) → V16 j = V j) → i11 + zc (nu (F15 7)) 40 ≤ 40 → s17 ≤ n → V16 22 = V 22 + 1 → F15 18 = F 18 → va_P (dC, dI) vwCl (mW h a k F15 V16) H → va_D A (mW h a k F15 V16) → va_S A s.heap H locs → lv_has ls 4 [(1, .int (nI s17)), (0, .ref h)] → W p l e (headSpec wq_m_oneTick rm_m_oneTick).room s m ([.ref h] : List Value).toArray below meth c H locs 0 0 Q0 (F0 m 33 ls []) := by
          intro fu12
          induction fu12 with
          | zero =>
            intro i11 s17  F15 V16 H locs ls hf hi
            exact absurd hf (by omega)
          | succ fu12 ih13 =>
            intro i11 s17  F15 V16 H locs ls hfi11 hii11 hI hU hV hEi11 hsi11 tv22qi11 t18qi11 hP hD hS hl
            have tv22 := tv22qi11
            have t18 := t18qi11
            refine lv_iload_n hx hb dX9_oneTick_33 rfl (lv_at hl 0 rfl) ?_
            refine lv_aload_n hx hb dX9_oneTick_34 rfl (lv_at hl 1 rfl) ?_
            refine va_get (D := (dC, dI)) (ci := 10) (v := .int (V16 21)) (C := RX9) (T := TX9) (N := 46) hx hb hts in_m_oneTick_X9 hown hK hP 0 rfl rfl 21 (by decide) (hts (.fieldLink RX9 126 "ServiceTreeModel" "services" "I") (by decide +kernel)) (fun _ h9 => h9) rfl dX9_oneTick_35 ?_
            refine p1_topr (v := .int (nI n)) (congrArg Value.int hI.1.2.1) ?_
            refine lv_icmp_ge (tgt := 99) hx hb dX9_oneTick_38 (by decide) (fun c18 => ?_) (fun c18 => ?_)
            · replace c18 : n ≤ s17 := (nI_leI (a := n) (b := s17) (by omega) (by omega)).mp c18
              refine lv_iconst (v := 0) hx hb dX9_oneTick_99 (by decide) ?_
              refine lv_istore_n (lv' := [(2, .int 0), (1, .int (nI s17)), (0, .ref h)]) hx hb dX9_oneTick_100 rfl hl (by decide) rfl (fun ls hl => ?_)
              have lp22 : ∀ (fu20 i19 : Nat)  (F23 : Nat → Nat → Int32) (V24 : Nat → Int32) (H : Heap) (locs : List Loc) (ls : Array Slot), n < i19 + fu20 → i19 ≤ n → StM n (b + 6 * i4 + 2 * i11) F V F23 V24 → (∀ j : Nat, j ∉ ([7, 8, 9, 10, 11, 12, 13, 14, 15, 16, 17, 18, 25, 26, 42, 43, 44] : List Nat) → F23 j = F j) → (∀ j : Nat, j ∉ ([22, 24, 45] : List Nat) → V24 j = V j) → V24 22 = V 22 + 1 → va_P (dC, dI) vwCl (mW h a k F23 V24) H → va_D A (mW h a k F23 V24) → va_S A s.heap H locs → lv_has ls 4 [(2, .int (nI i19)), (1, .int (nI s17)), (0, .ref h)] → W p l e (headSpec wq_m_oneTick rm_m_oneTick).room s m ([.ref h] : List Value).toArray below meth c H locs 0 0 Q0 (F0 m 101 ls []) := by
                intro fu20
                induction fu20 with
                | zero =>
                  intro i19  F23 V24 H locs ls hf hi
                  exact absurd hf (by omega)
                | succ fu20 ih21 =>
                  intro i19  F23 V24 H locs ls hfi19 hii19 hI hU hV tv22qi19 hP hD hS hl
                  have tv22 := tv22qi19
                  have t18 : F23 18 = F23 18 := rfl
                  refine lv_iload_n hx hb dX9_oneTick_101 rfl (lv_at hl 0 rfl) ?_
                  refine lv_aload_n hx hb dX9_oneTick_102 rfl (lv_at hl 2 rfl) ?_
                  refine va_get (D := (dC, dI)) (ci := 10) (v := .int (V24 21)) (C := RX9) (T := TX9) (N := 46) hx hb hts in_m_oneTick_X9 hown hK hP 0 rfl rfl 21 (by decide) (hts (.fieldLink RX9 126 "ServiceTreeModel" "services" "I") (by decide +kernel)) (fun _ h9 => h9) rfl dX9_oneTick_103 ?_
                  refine p1_topr (v := .int (nI n)) (congrArg Value.int hI.1.2.1) ?_
                  refine lv_icmp_ge (tgt := 231) hx hb dX9_oneTick_106 (by decide) (fun c25 => ?_) (fun c25 => ?_)
                  · replace c25 : n ≤ i19 := (nI_leI (a := n) (b := i19) (by omega) (by omega)).mp c25
                    refine lv_aload_n hx hb dX9_oneTick_231 rfl (lv_at hl 2 rfl) ?_
                    have hFc := mw_free hD hS hA
                    refine va_callv (va_runV (As := []) (rest := []) ⟨hx, hb, hml, hown, hts⟩ (c_m_begin l dC dI h a k F23 V24 n (b + 6 * i4 + 2 * i11)  H.size hI.1 (by omega) ) (cwV 0 hts wc_m_oneTick_m_begin_215 rfl rfl rfl (by decide +kernel) ⟨Nat.le_of_ble_eq_true rfl, Nat.le_of_ble_eq_true rfl⟩) ⟨fun a9 U g mk q => by obtain ⟨q0, q1, qP, qK, qD⟩ := q; exact ⟨q0, q1, qP, va_K.moved (u := U) (U := U.calling g mk a9) (Vm.Alike.refl U.vm) qK, qD⟩, va_recv hK hP (ci := 10) (q0 := 0) rfl rfl, fun U hU hW => ⟨rfl, by rw [hU], by rw [hU]; exact hP, va_K.moved hW.alike hK, hD.weaken (fun _ _ _ _ => trivial)⟩⟩ rfl rfl hl.1 rfl (lv_room (Nat.le_of_ble_eq_true rfl)) dX9_oneTick_232 ⟨Nat.le_of_ble_eq_true rfl, Nat.le_of_ble_eq_true rfl⟩) hS (fun q _ h => hFc q h) hFc (fun u t H1 locs ht hvm hw hB hz1 hk1 hS => ?_)
                    obtain ⟨F27, V28⟩ := u
                    replace hP := hB.1
                    rw [ht] at hP
                    replace hD : va_D A (mW h a k F27 V28) := hB.2.weaken (fun _ q _ h9 => hFc q.1 h9)
                    clear hB
                    generalize H1 = H at hP hS ⊢
                    replace hP : va_P (dC, dI) vwCl (mW h a k F27 V28) H := hP
                    obtain ⟨hwI, hwU, hwV, hw⟩ := hw
                    replace hU : ∀ j : Nat, j ∉ ([7, 8, 9, 10, 11, 12, 13, 14, 15, 16, 17, 18, 25, 26, 42, 43, 44] : List Nat) → F27 j = F j := mw_tr (by decide) hwU hU
                    replace hV : ∀ j : Nat, j ∉ ([22, 24, 45] : List Nat) → V28 j = V j := mw_tr (by decide) hwV hV
                    replace hI : StM n (b + 6 * i4 + 2 * i11 + 82) F V F27 V28 := hI.trans hwI
                    replace t18 : F27 18 = F23 18 := (hwU 18 (by decide)).trans t18
                    replace tv22 : V28 22 = V 22 + 1 := (hwV 22 (by decide)).trans tv22
                    rw [hQ]
                    exact W.vret hx hb hr (fun t ht hW => ⟨⟨(F27, V28), rfl, ⟨hI.mono (by omega), hU, hV, tv22⟩, by rw [ht]; exact hP, hD⟩, hS.F ht⟩) hS.2.2 dX9_oneTick_235
                  · replace c25 : ¬ (n ≤ i19) := fun q9 => c25 ((nI_leI (a := n) (b := i19) (by omega) (by omega)).mpr q9)
                    refine lv_aload_n hx hb dX9_oneTick_109 rfl (lv_at hl 2 rfl) ?_
                    refine va_get (D := (dC, dI)) (ci := 10) (v := .ref (a 0)) (C := RX9) (T := TX9) (N := 46) hx hb hts in_m_oneTick_X9 hown hK hP 0 rfl rfl 0 (by decide) (hts (.fieldLink RX9 9 "ServiceTreeModel" "kind" "[I") (by decide +kernel)) (fun _ h9 => h9) rfl dX9_oneTick_110 ?_
                    refine lv_iload_n hx hb dX9_oneTick_113 rfl (lv_at hl 0 rfl) ?_
                    refine va_iald (n := 40) (f := F23 0) hx hb hK hP 1 0 rfl rfl (vp_in_nI (n := i19) (by omega) (by decide)) dX9_oneTick_114 ?_
                    refine lv_topi (fun x29 ex29 => ?_)
                    refine lv_iconst (v := 2) hx hb dX9_oneTick_115 (by decide) ?_
                    refine lv_icmp_ne (tgt := 225) hx hb dX9_oneTick_116 (by decide) (fun c30 => ?_) (fun c30 => ?_)
                    · refine lv_iinc (v := nI (i19 + 1)) (lv' := [(2, .int (nI (i19 + 1))), (1, .int (nI s17)), (0, .ref h)]) hx hb dX9_oneTick_225 hl (k := 0) rfl (nI_add i19 1) (by decide) rfl (fun ls hl => ?_)
                      refine lv_goto (tgt := 101) hx hb dX9_oneTick_228 (by decide) ?_
                      exact ih21 (i19 + 1)  F23 V24 _ _ _ (by omega) (by omega) (hI.mono (by omega)) hU hV tv22 hP hD hS (lv_sub hl [0, 1, 2] rfl)
                    · refine lv_aload_n hx hb dX9_oneTick_119 rfl (lv_at hl 2 rfl) ?_
                      refine va_get (D := (dC, dI)) (ci := 10) (v := .ref (a 7)) (C := RX9) (T := TX9) (N := 46) hx hb hts in_m_oneTick_X9 hown hK hP 0 rfl rfl 7 (by decide) (hts (.fieldLink RX9 31 "ServiceTreeModel" "state" "[I") (by decide +kernel)) (fun _ h9 => h9) rfl dX9_oneTick_120 ?_
                      refine lv_iload_n hx hb dX9_oneTick_123 rfl (lv_at hl 0 rfl) ?_
                      refine va_iald (n := 40) (f := F23 7) hx hb hK hP 8 7 rfl rfl (vp_in_nI (n := i19) (by omega) (by decide)) dX9_oneTick_124 ?_
                      refine lv_topi (fun x31 ex31 => ?_)
                      refine lv_iconst (v := 2) hx hb dX9_oneTick_125 (by decide) ?_
                      refine lv_icmp_ne (tgt := 225) hx hb dX9_oneTick_126 (by decide) (fun c32 => ?_) (fun c32 => ?_)
                      · refine lv_iinc (v := nI (i19 + 1)) (lv' := [(2, .int (nI (i19 + 1))), (1, .int (nI s17)), (0, .ref h)]) hx hb dX9_oneTick_225 hl (k := 0) rfl (nI_add i19 1) (by decide) rfl (fun ls hl => ?_)
                        refine lv_goto (tgt := 101) hx hb dX9_oneTick_228 (by decide) ?_
                        exact ih21 (i19 + 1)  F23 V24 _ _ _ (by omega) (by omega) (hI.mono (by omega)) hU hV tv22 hP hD hS (lv_sub hl [0, 1, 2] rfl)
                      · refine lv_aload_n hx hb dX9_oneTick_129 rfl (lv_at hl 2 rfl) ?_
                        refine va_get (D := (dC, dI)) (ci := 10) (v := .ref (a 18)) (C := RX9) (T := TX9) (N := 46) hx hb hts in_m_oneTick_X9 hown hK hP 0 rfl rfl 18 (by decide) (hts (.fieldLink RX9 65 "ServiceTreeModel" "letterMany" "[I") (by decide +kernel)) (fun _ h9 => h9) rfl dX9_oneTick_130 ?_
                        refine lv_iload_n hx hb dX9_oneTick_133 rfl (lv_at hl 0 rfl) ?_
                        refine va_iald (n := 40) (f := F23 18) hx hb hK hP 19 18 rfl rfl (vp_in_nI (n := i19) (by omega) (by decide)) dX9_oneTick_134 ?_
                        refine lv_topi (fun x33 ex33 => ?_)
                        rw [t18] at ex33
                        obtain ⟨m34, hm34, qm34⟩ := hI.1.2.2.2.2.2.2.1 (nI i19).toNatClampNeg
                        rw [t18] at qm34
                        obtain rfl : x33 = nI m34 := ex33.trans qm34
                        refine lv_if_le (tgt := 225) hx hb dX9_oneTick_135 (by decide) (fun c35 => ?_) (fun c35 => ?_)
                        · replace c35 : m34 ≤ 0 := (nI_leI (a := m34) (b := 0) (by omega) (by omega)).mp c35
                          refine lv_iinc (v := nI (i19 + 1)) (lv' := [(2, .int (nI (i19 + 1))), (1, .int (nI s17)), (0, .ref h)]) hx hb dX9_oneTick_225 hl (k := 0) rfl (nI_add i19 1) (by decide) rfl (fun ls hl => ?_)
                          refine lv_goto (tgt := 101) hx hb dX9_oneTick_228 (by decide) ?_
                          exact ih21 (i19 + 1)  F23 V24 _ _ _ (by omega) (by omega) (hI.mono (by omega)) hU hV tv22 hP hD hS (lv_sub hl [0, 1, 2] rfl)
                        · replace c35 : ¬ (m34 ≤ 0) := fun q9 => c35 ((nI_leI (a := m34) (b := 0) (by omega) (by omega)).mpr q9)
                          refine lv_aload_n hx hb dX9_oneTick_138 rfl (lv_at hl 2 rfl) ?_
                          refine va_get (D := (dC, dI)) (ci := 10) (v := .ref (a 16)) (C := RX9) (T := TX9) (N := 46) hx hb hts in_m_oneTick_X9 hown hK hP 0 rfl rfl 16 (by decide) (hts (.fieldLink RX9 59 "ServiceTreeModel" "readLast" "[I") (by decide +kernel)) (fun _ h9 => h9) rfl dX9_oneTick_139 ?_
                          refine lv_iload_n hx hb dX9_oneTick_142 rfl (lv_at hl 0 rfl) ?_
                          refine lv_aload_n hx hb dX9_oneTick_143 rfl (lv_at hl 2 rfl) ?_
                          refine va_get (D := (dC, dI)) (ci := 10) (v := .ref (a 17)) (C := RX9) (T := TX9) (N := 46) hx hb hts in_m_oneTick_X9 hown hK hP 0 rfl rfl 17 (by decide) (hts (.fieldLink RX9 62 "ServiceTreeModel" "letters" "[I") (by decide +kernel)) (fun _ h9 => h9) rfl dX9_oneTick_144 ?_
                          refine lv_bipush (v := 20) hx hb dX9_oneTick_147 (by decide) ?_
                          refine lv_iload_n hx hb dX9_oneTick_149 rfl (lv_at hl 0 rfl) ?_
                          refine lv_imul hx hb dX9_oneTick_150 ?_
                          refine p1_topr (v := .int (nI (20 * i19))) (congrArg Value.int (pk_mul 20 i19)) ?_
                          refine va_iald (n := 800) (f := F23 17) hx hb hK hP 18 17 rfl rfl (vp_in_nI (n := 20 * i19) (by omega) (by decide)) dX9_oneTick_151 ?_
                          refine lv_topi (fun x36 ex36 => ?_)
                          refine va_iast (n := 40) (f := F23 16) hx hb hK hP hD hS 17 16 rfl rfl (vp_in_nI (n := i19) (by omega) (by decide)) dX9_oneTick_152 (fun H locs hP hD hS => ?_)
                          rw [mW_set_16] at hP hD
                          obtain ⟨F37, eF37⟩ : ∃ f9 : Nat → Nat → Int32, f9 = va_up F23 16 (upd (F23 16) (nI i19).toNatClampNeg x36) := ⟨_, rfl⟩
                          rw [← eF37] at hP hD
                          replace hI : StM n (b + 6 * i4 + 2 * i11) F V F37 V24 := ⟨by rw [eF37]; exact hI.1.setF (by decide), trivial⟩
                          replace hU : ∀ j : Nat, j ∉ ([7, 8, 9, 10, 11, 12, 13, 14, 15, 16, 17, 18, 25, 26, 42, 43, 44] : List Nat) → F37 j = F j := by rw [eF37]; exact mw_up (by decide) hU
                          replace t18 : F37 18 = F23 18 := by rw [eF37]; exact (va_up_ne _ _ (by decide)).trans t18
                          refine lv_aload_n hx hb dX9_oneTick_153 rfl (lv_at hl 2 rfl) ?_
                          refine va_get (D := (dC, dI)) (ci := 10) (v := .ref (a 18)) (C := RX9) (T := TX9) (N := 46) hx hb hts in_m_oneTick_X9 hown hK hP 0 rfl rfl 18 (by decide) (hts (.fieldLink RX9 65 "ServiceTreeModel" "letterMany" "[I") (by decide +kernel)) (fun _ h9 => h9) rfl dX9_oneTick_154 ?_
                          refine lv_iload_n hx hb dX9_oneTick_157 rfl (lv_at hl 0 rfl) ?_
                          refine lv_dup2_11 hx hb dX9_oneTick_158 rfl rfl ?_
                          refine va_iald (n := 40) (f := F37 18) hx hb hK hP 19 18 rfl rfl (vp_in_nI (n := i19) (by omega) (by decide)) dX9_oneTick_159 ?_
                          refine p1_topr (v := .int (nI m34)) (congrArg Value.int (by rw [t18]; exact qm34)) ?_
                          refine lv_iconst (v := 1) hx hb dX9_oneTick_160 (by decide) ?_
                          refine lv_isub hx hb dX9_oneTick_161 ?_
                          refine p1_topr (v := .int (nI (m34 - 1))) (congrArg Value.int (pk_sub (a := m34) (b := 1) (by omega))) ?_
                          refine va_iast (n := 40) (f := F37 18) hx hb hK hP hD hS 19 18 rfl rfl (vp_in_nI (n := i19) (by omega) (by decide)) dX9_oneTick_162 (fun H locs hP hD hS => ?_)
                          rw [mW_set_18] at hP hD
                          obtain ⟨F39, eF39⟩ : ∃ f9 : Nat → Nat → Int32, f9 = va_up F37 18 (upd (F37 18) (nI i19).toNatClampNeg (nI (m34 - 1))) := ⟨_, rfl⟩
                          rw [← eF39] at hP hD
                          replace hI : StM n (b + 6 * i4 + 2 * i11) F V F39 V24 := ⟨by rw [eF39]; exact hI.1.set18 (i := (nI i19).toNatClampNeg) (x := m34 - 1) (by omega), trivial⟩
                          replace hU : ∀ j : Nat, j ∉ ([7, 8, 9, 10, 11, 12, 13, 14, 15, 16, 17, 18, 25, 26, 42, 43, 44] : List Nat) → F39 j = F j := by rw [eF39]; exact mw_up (by decide) hU
                          replace t18 : F39 18 = upd (F23 18) (nI i19).toNatClampNeg (nI (m34 - 1)) := by rw [eF39, va_up_self, t18]
                          refine lv_iconst (v := 0) hx hb dX9_oneTick_163 (by decide) ?_
                          refine lv_istore_n (lv' := [(3, .int 0), (2, .int (nI i19)), (1, .int (nI s17)), (0, .ref h)]) hx hb dX9_oneTick_164 rfl hl (by decide) rfl (fun ls hl => ?_)
                          have lp43 : ∀ (fu41 i40 : Nat)  (F44 : Nat → Nat → Int32) (V45 : Nat → Int32) (H : Heap) (locs : List Loc) (ls : Array Slot), 20 < i40 + fu41 → i40 ≤ 20 → StM n (b + 6 * i4 + 2 * i11) F V F44 V45 → (∀ j : Nat, j ∉ ([7, 8, 9, 10, 11, 12, 13, 14, 15, 16, 17, 18, 25, 26, 42, 43, 44] : List Nat) → F44 j = F j) → (∀ j : Nat, j ∉ ([22, 24, 45] : List Nat) → V45 j = V j) → V45 22 = V 22 + 1 → F44 18 = upd (F23 18) (nI i19).toNatClampNeg (nI (m34 - 1)) → va_P (dC, dI) vwCl (mW h a k F44 V45) H → va_D A (mW h a k F44 V45) → va_S A s.heap H locs → lv_has ls 4 [(3, .int (nI i40)), (2, .int (nI i19)), (1, .int (nI s17)), (0, .ref h)] → W p l e (headSpec wq_m_oneTick rm_m_oneTick).room s m ([.ref h] : List Value).toArray below meth c H locs 0 0 Q0 (F0 m 165 ls []) := by
                            intro fu41
                            induction fu41 with
                            | zero =>
                              intro i40  F44 V45 H locs ls hf hi
                              exact absurd hf (by omega)
                            | succ fu41 ih42 =>
                              intro i40  F44 V45 H locs ls hfi40 hii40 hI hU hV tv22qi40 t18qi40 hP hD hS hl
                              have tv22 := tv22qi40
                              have t18 := t18qi40
                              refine lv_iload_n hx hb dX9_oneTick_165 rfl (lv_at hl 0 rfl) ?_
                              refine lv_aload_n hx hb dX9_oneTick_166 rfl (lv_at hl 3 rfl) ?_
                              refine va_get (D := (dC, dI)) (ci := 10) (v := .ref (a 18)) (C := RX9) (T := TX9) (N := 46) hx hb hts in_m_oneTick_X9 hown hK hP 0 rfl rfl 18 (by decide) (hts (.fieldLink RX9 65 "ServiceTreeModel" "letterMany" "[I") (by decide +kernel)) (fun _ h9 => h9) rfl dX9_oneTick_167 ?_
                              refine lv_iload_n hx hb dX9_oneTick_170 rfl (lv_at hl 1 rfl) ?_
                              refine va_iald (n := 40) (f := F44 18) hx hb hK hP 19 18 rfl rfl (vp_in_nI (n := i19) (by omega) (by decide)) dX9_oneTick_171 ?_
                              refine lv_topi (fun x46 ex46 => ?_)
                              rw [t18] at ex46
                              obtain rfl : x46 = nI (m34 - 1) := ex46.trans pk_us
                              refine lv_icmp_ge (tgt := 205) hx hb dX9_oneTick_172 (by decide) (fun c47 => ?_) (fun c47 => ?_)
                              · replace c47 : m34 - 1 ≤ i40 := (nI_leI (a := m34 - 1) (b := i40) (by omega) (by omega)).mp c47
                                refine lv_aload_n hx hb dX9_oneTick_205 rfl (lv_at hl 3 rfl) ?_
                                refine va_get (D := (dC, dI)) (ci := 10) (v := .ref (a 15)) (C := RX9) (T := TX9) (N := 46) hx hb hts in_m_oneTick_X9 hown hK hP 0 rfl rfl 15 (by decide) (hts (.fieldLink RX9 56 "ServiceTreeModel" "read" "[I") (by decide +kernel)) (fun _ h9 => h9) rfl dX9_oneTick_206 ?_
                                refine lv_iload_n hx hb dX9_oneTick_209 rfl (lv_at hl 1 rfl) ?_
                                refine lv_dup2_11 hx hb dX9_oneTick_210 rfl rfl ?_
                                refine va_iald (n := 40) (f := F44 15) hx hb hK hP 16 15 rfl rfl (vp_in_nI (n := i19) (by omega) (by decide)) dX9_oneTick_211 ?_
                                refine lv_topi (fun x48 ex48 => ?_)
                                refine lv_iconst (v := 1) hx hb dX9_oneTick_212 (by decide) ?_
                                refine lv_iadd hx hb dX9_oneTick_213 ?_
                                refine lv_topi (fun x49 ex49 => ?_)
                                refine va_iast (n := 40) (f := F44 15) hx hb hK hP hD hS 16 15 rfl rfl (vp_in_nI (n := i19) (by omega) (by decide)) dX9_oneTick_214 (fun H locs hP hD hS => ?_)
                                rw [mW_set_15] at hP hD
                                obtain ⟨F50, eF50⟩ : ∃ f9 : Nat → Nat → Int32, f9 = va_up F44 15 (upd (F44 15) (nI i19).toNatClampNeg x49) := ⟨_, rfl⟩
                                rw [← eF50] at hP hD
                                replace hI : StM n (b + 6 * i4 + 2 * i11) F V F50 V45 := ⟨by rw [eF50]; exact hI.1.setF (by decide), trivial⟩
                                replace hU : ∀ j : Nat, j ∉ ([7, 8, 9, 10, 11, 12, 13, 14, 15, 16, 17, 18, 25, 26, 42, 43, 44] : List Nat) → F50 j = F j := by rw [eF50]; exact mw_up (by decide) hU
                                replace t18 : F50 18 = upd (F23 18) (nI i19).toNatClampNeg (nI (m34 - 1)) := by rw [eF50]; exact (va_up_ne _ _ (by decide)).trans t18
                                refine lv_aload_n hx hb dX9_oneTick_215 rfl (lv_at hl 3 rfl) ?_
                                refine lv_dup hx hb dX9_oneTick_216 rfl ?_
                                refine va_get (D := (dC, dI)) (ci := 10) (v := .int (V45 24)) (C := RX9) (T := TX9) (N := 46) hx hb hts in_m_oneTick_X9 hown hK hP 0 rfl rfl 24 (by decide) (hts (.fieldLink RX9 243 "ServiceTreeModel" "readAll" "I") (by decide +kernel)) (fun _ h9 => h9) rfl dX9_oneTick_217 ?_
                                refine lv_topi (fun x51 ex51 => ?_)
                                refine lv_iconst (v := 1) hx hb dX9_oneTick_220 (by decide) ?_
                                refine lv_iadd hx hb dX9_oneTick_221 ?_
                                refine lv_topi (fun x52 ex52 => ?_)
                                refine va_put (D := (dC, dI)) (ci := 10) (fs := mF a V45) (v := .int x52) (ty := .int) (C := RX9) (T := TX9) (N := 46) hx hb hts in_m_oneTick_X9 tyX9 tyX9_ok nmX9 hown hK hP hD hS 0 rfl rfl 24 (by decide) (hts (.fieldLink RX9 243 "ServiceTreeModel" "readAll" "I") (by decide +kernel)) (fun _ h9 => h9) rfl (by decide +kernel) rfl rfl (Nat.le_of_ble_eq_true rfl) dX9_oneTick_222 (fun H locs hP hD hS => ?_)
                                rw [mW_put_24] at hP hD
                                obtain ⟨V53, eV53⟩ : ∃ f9 : Nat → Int32, f9 = va_up V45 24 x52 := ⟨_, rfl⟩
                                rw [← eV53] at hP hD
                                replace hI : StM n (b + 6 * i4 + 2 * i11) F V F50 V53 := ⟨by rw [eV53]; exact hI.1.setV (by decide), trivial⟩
                                replace hV : ∀ j : Nat, j ∉ ([22, 24, 45] : List Nat) → V53 j = V j := by rw [eV53]; exact mw_up (by decide) hV
                                replace tv22 : V53 22 = V 22 + 1 := by rw [eV53]; exact (va_up_ne _ _ (by decide)).trans tv22
                                refine lv_iinc (v := nI (i19 + 1)) (lv' := [(2, .int (nI (i19 + 1))), (3, .int (nI i40)), (1, .int (nI s17)), (0, .ref h)]) hx hb dX9_oneTick_225 hl (k := 1) rfl (nI_add i19 1) (by decide) rfl (fun ls hl => ?_)
                                refine lv_goto (tgt := 101) hx hb dX9_oneTick_228 (by decide) ?_
                                exact ih21 (i19 + 1)  F50 V53 _ _ _ (by omega) (by omega) (hI.mono (by omega)) hU hV tv22 hP hD hS (lv_sub hl [0, 2, 3] rfl)
                              · replace c47 : ¬ (m34 - 1 ≤ i40) := fun q9 => c47 ((nI_leI (a := m34 - 1) (b := i40) (by omega) (by omega)).mpr q9)
                                refine lv_aload_n hx hb dX9_oneTick_175 rfl (lv_at hl 3 rfl) ?_
                                refine va_get (D := (dC, dI)) (ci := 10) (v := .ref (a 17)) (C := RX9) (T := TX9) (N := 46) hx hb hts in_m_oneTick_X9 hown hK hP 0 rfl rfl 17 (by decide) (hts (.fieldLink RX9 62 "ServiceTreeModel" "letters" "[I") (by decide +kernel)) (fun _ h9 => h9) rfl dX9_oneTick_176 ?_
                                refine lv_bipush (v := 20) hx hb dX9_oneTick_179 (by decide) ?_
                                refine lv_iload_n hx hb dX9_oneTick_181 rfl (lv_at hl 1 rfl) ?_
                                refine lv_imul hx hb dX9_oneTick_182 ?_
                                refine p1_topr (v := .int (nI (20 * i19))) (congrArg Value.int (pk_mul 20 i19)) ?_
                                refine lv_iload_n hx hb dX9_oneTick_183 rfl (lv_at hl 0 rfl) ?_
                                refine lv_iadd hx hb dX9_oneTick_184 ?_
                                refine p1_topr (v := .int (nI ((20 * i19) + i40))) (congrArg Value.int (nI_add (20 * i19) i40)) ?_
                                refine lv_aload_n hx hb dX9_oneTick_185 rfl (lv_at hl 3 rfl) ?_
                                refine va_get (D := (dC, dI)) (ci := 10) (v := .ref (a 17)) (C := RX9) (T := TX9) (N := 46) hx hb hts in_m_oneTick_X9 hown hK hP 0 rfl rfl 17 (by decide) (hts (.fieldLink RX9 62 "ServiceTreeModel" "letters" "[I") (by decide +kernel)) (fun _ h9 => h9) rfl dX9_oneTick_186 ?_
                                refine lv_bipush (v := 20) hx hb dX9_oneTick_189 (by decide) ?_
                                refine lv_iload_n hx hb dX9_oneTick_191 rfl (lv_at hl 1 rfl) ?_
                                refine lv_imul hx hb dX9_oneTick_192 ?_
                                refine p1_topr (v := .int (nI (20 * i19))) (congrArg Value.int (pk_mul 20 i19)) ?_
                                refine lv_iload_n hx hb dX9_oneTick_193 rfl (lv_at hl 0 rfl) ?_
                                refine lv_iadd hx hb dX9_oneTick_194 ?_
                                refine p1_topr (v := .int (nI ((20 * i19) + i40))) (congrArg Value.int (nI_add (20 * i19) i40)) ?_
                                refine lv_iconst (v := 1) hx hb dX9_oneTick_195 (by decide) ?_
                                refine lv_iadd hx hb dX9_oneTick_196 ?_
                                refine p1_topr (v := .int (nI (((20 * i19) + i40) + 1))) (congrArg Value.int (nI_add ((20 * i19) + i40) 1)) ?_
                                refine va_iald (n := 800) (f := F44 17) hx hb hK hP 18 17 rfl rfl (vp_in_nI (n := ((20 * i19) + i40) + 1) (by omega) (by decide)) dX9_oneTick_197 ?_
                                refine lv_topi (fun x54 ex54 => ?_)
                                refine va_iast (n := 800) (f := F44 17) hx hb hK hP hD hS 18 17 rfl rfl (vp_in_nI (n := (20 * i19) + i40) (by omega) (by decide)) dX9_oneTick_198 (fun H locs hP hD hS => ?_)
                                rw [mW_set_17] at hP hD
                                obtain ⟨F55, eF55⟩ : ∃ f9 : Nat → Nat → Int32, f9 = va_up F44 17 (upd (F44 17) (nI ((20 * i19) + i40)).toNatClampNeg x54) := ⟨_, rfl⟩
                                rw [← eF55] at hP hD
                                replace hI : StM n (b + 6 * i4 + 2 * i11) F V F55 V45 := ⟨by rw [eF55]; exact hI.1.setF (by decide), trivial⟩
                                replace hU : ∀ j : Nat, j ∉ ([7, 8, 9, 10, 11, 12, 13, 14, 15, 16, 17, 18, 25, 26, 42, 43, 44] : List Nat) → F55 j = F j := by rw [eF55]; exact mw_up (by decide) hU
                                replace t18 : F55 18 = upd (F23 18) (nI i19).toNatClampNeg (nI (m34 - 1)) := by rw [eF55]; exact (va_up_ne _ _ (by decide)).trans t18
                                refine lv_iinc (v := nI (i40 + 1)) (lv' := [(3, .int (nI (i40 + 1))), (2, .int (nI i19)), (1, .int (nI s17)), (0, .ref h)]) hx hb dX9_oneTick_199 hl (k := 0) rfl (nI_add i40 1) (by decide) rfl (fun ls hl => ?_)
                                refine lv_goto (tgt := 165) hx hb dX9_oneTick_202 (by decide) ?_
                                exact ih42 (i40 + 1)  F55 V45 _ _ _ (by omega) (by omega) (hI.mono (by omega)) hU hV tv22 t18 hP hD hS (lv_sub hl [0, 1, 2, 3] rfl)
                          exact lp43 (20 + 1) 0  F39 V24 _ _ _ (by omega) (by omega) (hI.mono (by omega)) hU hV tv22 t18 hP hD hS hl
              exact lp22 (n + 1) 0  F15 V16 _ _ _ (by omega) (by omega) (hI.mono (by omega)) hU hV tv22 hP hD hS hl
            · replace c18 : ¬ (n ≤ s17) := fun q9 => c18 ((nI_leI (a := n) (b := s17) (by omega) (by omega)).mpr q9)
              refine lv_aload_n hx hb dX9_oneTick_41 rfl (lv_at hl 1 rfl) ?_
              refine va_get (D := (dC, dI)) (ci := 10) (v := .ref (a 7)) (C := RX9) (T := TX9) (N := 46) hx hb hts in_m_oneTick_X9 hown hK hP 0 rfl rfl 7 (by decide) (hts (.fieldLink RX9 31 "ServiceTreeModel" "state" "[I") (by decide +kernel)) (fun _ h9 => h9) rfl dX9_oneTick_42 ?_
              refine lv_iload_n hx hb dX9_oneTick_45 rfl (lv_at hl 0 rfl) ?_
              refine va_iald (n := 40) (f := F15 7) hx hb hK hP 8 7 rfl rfl (vp_in_nI (n := s17) (by omega) (by decide)) dX9_oneTick_46 ?_
              refine lv_topi (fun x56 ex56 => ?_)
              refine lv_iconst (v := 1) hx hb dX9_oneTick_47 (by decide) ?_
              refine lv_icmp_eq (tgt := 61) hx hb dX9_oneTick_48 (by decide) (fun c57 => ?_) (fun c57 => ?_)
              · refine lv_aload_n hx hb dX9_oneTick_61 rfl (lv_at hl 1 rfl) ?_
                refine lv_iload_n hx hb dX9_oneTick_62 rfl (lv_at hl 0 rfl) ?_
                have hFc := mw_free hD hS hA
                refine va_calli (va_runV (As := [.int (nI s17)]) (rest := []) ⟨hx, hb, hml, hown, hts⟩ (c_m_hasNeeds l dC dI h a k F15 V16 n (b + 6 * i4 + 2 * i11) s17 H.size hI.1 (by omega) (by omega)) (cwV 1 hts wc_m_oneTick_m_hasNeeds_231 rfl rfl rfl (by decide +kernel) ⟨Nat.le_of_ble_eq_true rfl, Nat.le_of_ble_eq_true rfl⟩) ⟨fun a9 U g mk q => by obtain ⟨q0, q1, qP, qK, qD⟩ := q; exact ⟨q0, q1, qP, va_K.moved (u := U) (U := U.calling g mk a9) (Vm.Alike.refl U.vm) qK, qD⟩, va_recv hK hP (ci := 10) (q0 := 0) rfl rfl, fun U hU hW => ⟨rfl, by rw [hU], by rw [hU]; exact hP, va_K.moved hW.alike hK, hD.weaken (fun _ _ _ _ => trivial)⟩⟩ rfl rfl hl.1 rfl (lv_room (Nat.le_of_ble_eq_true rfl)) dX9_oneTick_63 ⟨Nat.le_of_ble_eq_true rfl, Nat.le_of_ble_eq_true rfl⟩) hS (fun q _ h => hFc q h) hFc (fun r58 u t H1 locs ht hvm hw hB hz1 hk1 hS => ?_)
                obtain ⟨F59, V60⟩ := u
                replace hP := hB.1
                rw [ht] at hP
                replace hD : va_D A (mW h a k F59 V60) := hB.2.weaken (fun _ q _ h9 => hFc q.1 h9)
                clear hB
                generalize H1 = H at hP hS ⊢
                replace hP : va_P (dC, dI) vwCl (mW h a k F59 V60) H := hP
                obtain ⟨hwF, hwV, hw⟩ : F59 = F15 ∧ V60 = V16 ∧ _ := hw
                rw [hwF, hwV] at hP hD
                have br58 := hw
                refine lv_if_ne (tgt := 93) hx hb dX9_oneTick_66 (by decide) (fun c61 => ?_) (fun c61 => ?_)
                · refine lv_iinc (v := nI (s17 + 1)) (lv' := [(1, .int (nI (s17 + 1))), (0, .ref h)]) hx hb dX9_oneTick_93 hl (k := 0) rfl (nI_add s17 1) (by decide) rfl (fun ls hl => ?_)
                  refine lv_goto (tgt := 33) hx hb dX9_oneTick_96 (by decide) ?_
                  exact ih13 i11 (s17 + 1)  F15 V16 _ _ _ (by omega) (by omega) (hI.mono (by omega)) hU hV (by omega) (by omega) tv22 t18 hP hD hS (lv_sub hl [0, 1] rfl)
                · refine lv_aload_n hx hb dX9_oneTick_69 rfl (lv_at hl 1 rfl) ?_
                  refine lv_iload_n hx hb dX9_oneTick_70 rfl (lv_at hl 0 rfl) ?_
                  refine lv_aload_n hx hb dX9_oneTick_71 rfl (lv_at hl 1 rfl) ?_
                  refine va_get (D := (dC, dI)) (ci := 10) (v := .ref (a 2)) (C := RX9) (T := TX9) (N := 46) hx hb hts in_m_oneTick_X9 hown hK hP 0 rfl rfl 2 (by decide) (hts (.fieldLink RX9 16 "ServiceTreeModel" "stop" "[I") (by decide +kernel)) (fun _ h9 => h9) rfl dX9_oneTick_72 ?_
                  refine lv_iload_n hx hb dX9_oneTick_75 rfl (lv_at hl 0 rfl) ?_
                  refine va_iald (n := 40) (f := F15 2) hx hb hK hP 3 2 rfl rfl (vp_in_nI (n := s17) (by omega) (by decide)) dX9_oneTick_76 ?_
                  refine lv_topi (fun x62 ex62 => ?_)
                  refine lv_if_ne (tgt := 84) hx hb dX9_oneTick_77 (by decide) (fun c63 => ?_) (fun c63 => ?_)
                  · refine lv_iconst (v := 3) hx hb dX9_oneTick_84 (by decide) ?_
                    have hFc := mw_free hD hS hA
                    refine va_callv (va_runV (As := [.int (nI s17), .int 3]) (rest := []) ⟨hx, hb, hml, hown, hts⟩ (c_m_to l dC dI h a k F15 V16 n (b + 6 * i4 + 2 * i11) s17 3 H.size hI.1 (by omega) (by omega)) (cwV 2 hts wc_m_oneTick_m_to_211 rfl rfl rfl (by decide +kernel) ⟨Nat.le_of_ble_eq_true rfl, Nat.le_of_ble_eq_true rfl⟩) ⟨fun a9 U g mk q => by obtain ⟨q0, q1, qP, qK, qD⟩ := q; exact ⟨q0, q1, qP, va_K.moved (u := U) (U := U.calling g mk a9) (Vm.Alike.refl U.vm) qK, qD⟩, va_recv hK hP (ci := 10) (q0 := 0) rfl rfl, fun U hU hW => ⟨rfl, by rw [hU], by rw [hU]; exact hP, va_K.moved hW.alike hK, hD.weaken (fun _ _ _ _ => trivial)⟩⟩ rfl rfl hl.1 rfl (lv_room (Nat.le_of_ble_eq_true rfl)) dX9_oneTick_85 ⟨Nat.le_of_ble_eq_true rfl, Nat.le_of_ble_eq_true rfl⟩) hS (fun q _ h => hFc q h) hFc (fun u t H1 locs ht hvm hw hB hz1 hk1 hS => ?_)
                    obtain ⟨F65, V66⟩ := u
                    replace hP := hB.1
                    rw [ht] at hP
                    replace hD : va_D A (mW h a k F65 V66) := hB.2.weaken (fun _ q _ h9 => hFc q.1 h9)
                    clear hB
                    generalize H1 = H at hP hS ⊢
                    replace hP : va_P (dC, dI) vwCl (mW h a k F65 V66) H := hP
                    obtain ⟨hwI, hwU, hwV, hw⟩ := hw
                    replace hU : ∀ j : Nat, j ∉ ([7, 8, 9, 10, 11, 12, 13, 14, 15, 16, 17, 18, 25, 26, 42, 43, 44] : List Nat) → F65 j = F j := mw_tr (by decide) hwU hU
                    replace hV : ∀ j : Nat, j ∉ ([22, 24, 45] : List Nat) → V66 j = V j := mw_tr (by decide) hwV hV
                    replace hI : StM n (b + 6 * i4 + 2 * i11 + 2) F V F65 V66 := hI.trans hwI
                    replace t18 : F65 18 = F 18 := (hwU 18 (by decide)).trans t18
                    replace tv22 : V66 22 = V 22 + 1 := (hwV 22 (by decide)).trans tv22
                    have hlt : zc (nu (F65 7)) 40 < zc (nu (F15 7)) 40 := by rw [show F65 7 = _ from hw]; exact nu_lt (Or.inl (ex56.symm.trans c57)) (by decide) (by rw [nI_clamp (by omega)]; omega)
                    refine lv_iconst (v := 0) hx hb dX9_oneTick_88 (by decide) ?_
                    refine lv_istore_n (lv' := [(1, .int 0), (0, .ref h)]) hx hb dX9_oneTick_89 rfl hl (by decide) rfl (fun ls hl => ?_)
                    refine lv_goto (tgt := 33) hx hb dX9_oneTick_90 (by decide) ?_
                    exact ih13 (i11 + 1) 0  F65 V66 _ _ _ (by omega) (by omega) (hI.mono (by omega)) hU hV (by omega) (by omega) tv22 t18 hP hD hS (lv_sub hl [0, 1] rfl)
                  · refine lv_iconst (v := 0) hx hb dX9_oneTick_80 (by decide) ?_
                    refine lv_goto (tgt := 85) hx hb dX9_oneTick_81 (by decide) ?_
                    have hFc := mw_free hD hS hA
                    refine va_callv (va_runV (As := [.int (nI s17), .int 0]) (rest := []) ⟨hx, hb, hml, hown, hts⟩ (c_m_to l dC dI h a k F15 V16 n (b + 6 * i4 + 2 * i11) s17 0 H.size hI.1 (by omega) (by omega)) (cwV 2 hts wc_m_oneTick_m_to_211 rfl rfl rfl (by decide +kernel) ⟨Nat.le_of_ble_eq_true rfl, Nat.le_of_ble_eq_true rfl⟩) ⟨fun a9 U g mk q => by obtain ⟨q0, q1, qP, qK, qD⟩ := q; exact ⟨q0, q1, qP, va_K.moved (u := U) (U := U.calling g mk a9) (Vm.Alike.refl U.vm) qK, qD⟩, va_recv hK hP (ci := 10) (q0 := 0) rfl rfl, fun U hU hW => ⟨rfl, by rw [hU], by rw [hU]; exact hP, va_K.moved hW.alike hK, hD.weaken (fun _ _ _ _ => trivial)⟩⟩ rfl rfl hl.1 rfl (lv_room (Nat.le_of_ble_eq_true rfl)) dX9_oneTick_85 ⟨Nat.le_of_ble_eq_true rfl, Nat.le_of_ble_eq_true rfl⟩) hS (fun q _ h => hFc q h) hFc (fun u t H1 locs ht hvm hw hB hz1 hk1 hS => ?_)
                    obtain ⟨F68, V69⟩ := u
                    replace hP := hB.1
                    rw [ht] at hP
                    replace hD : va_D A (mW h a k F68 V69) := hB.2.weaken (fun _ q _ h9 => hFc q.1 h9)
                    clear hB
                    generalize H1 = H at hP hS ⊢
                    replace hP : va_P (dC, dI) vwCl (mW h a k F68 V69) H := hP
                    obtain ⟨hwI, hwU, hwV, hw⟩ := hw
                    replace hU : ∀ j : Nat, j ∉ ([7, 8, 9, 10, 11, 12, 13, 14, 15, 16, 17, 18, 25, 26, 42, 43, 44] : List Nat) → F68 j = F j := mw_tr (by decide) hwU hU
                    replace hV : ∀ j : Nat, j ∉ ([22, 24, 45] : List Nat) → V69 j = V j := mw_tr (by decide) hwV hV
                    replace hI : StM n (b + 6 * i4 + 2 * i11 + 2) F V F68 V69 := hI.trans hwI
                    replace t18 : F68 18 = F 18 := (hwU 18 (by decide)).trans t18
                    replace tv22 : V69 22 = V 22 + 1 := (hwV 22 (by decide)).trans tv22
                    have hlt : zc (nu (F68 7)) 40 < zc (nu (F15 7)) 40 := by rw [show F68 7 = _ from hw]; exact nu_lt (Or.inl (ex56.symm.trans c57)) (by decide) (by rw [nI_clamp (by omega)]; omega)
                    refine lv_iconst (v := 0) hx hb dX9_oneTick_88 (by decide) ?_
                    refine lv_istore_n (lv' := [(1, .int 0), (0, .ref h)]) hx hb dX9_oneTick_89 rfl hl (by decide) rfl (fun ls hl => ?_)
                    refine lv_goto (tgt := 33) hx hb dX9_oneTick_90 (by decide) ?_
                    exact ih13 (i11 + 1) 0  F68 V69 _ _ _ (by omega) (by omega) (hI.mono (by omega)) hU hV (by omega) (by omega) tv22 t18 hP hD hS (lv_sub hl [0, 1] rfl)
              · refine lv_aload_n hx hb dX9_oneTick_51 rfl (lv_at hl 1 rfl) ?_
                refine va_get (D := (dC, dI)) (ci := 10) (v := .ref (a 7)) (C := RX9) (T := TX9) (N := 46) hx hb hts in_m_oneTick_X9 hown hK hP 0 rfl rfl 7 (by decide) (hts (.fieldLink RX9 31 "ServiceTreeModel" "state" "[I") (by decide +kernel)) (fun _ h9 => h9) rfl dX9_oneTick_52 ?_
                refine lv_iload_n hx hb dX9_oneTick_55 rfl (lv_at hl 0 rfl) ?_
                refine va_iald (n := 40) (f := F15 7) hx hb hK hP 8 7 rfl rfl (vp_in_nI (n := s17) (by omega) (by decide)) dX9_oneTick_56 ?_
                refine p1_topr (v := .int x56) (congrArg Value.int ex56.symm) ?_
                refine lv_iconst (v := 2) hx hb dX9_oneTick_57 (by decide) ?_
                refine lv_icmp_ne (tgt := 93) hx hb dX9_oneTick_58 (by decide) (fun c71 => ?_) (fun c71 => ?_)
                · refine lv_iinc (v := nI (s17 + 1)) (lv' := [(1, .int (nI (s17 + 1))), (0, .ref h)]) hx hb dX9_oneTick_93 hl (k := 0) rfl (nI_add s17 1) (by decide) rfl (fun ls hl => ?_)
                  refine lv_goto (tgt := 33) hx hb dX9_oneTick_96 (by decide) ?_
                  exact ih13 i11 (s17 + 1)  F15 V16 _ _ _ (by omega) (by omega) (hI.mono (by omega)) hU hV (by omega) (by omega) tv22 t18 hP hD hS (lv_sub hl [0, 1] rfl)
                · refine lv_aload_n hx hb dX9_oneTick_61 rfl (lv_at hl 1 rfl) ?_
                  refine lv_iload_n hx hb dX9_oneTick_62 rfl (lv_at hl 0 rfl) ?_
                  have hFc := mw_free hD hS hA
                  refine va_calli (va_runV (As := [.int (nI s17)]) (rest := []) ⟨hx, hb, hml, hown, hts⟩ (c_m_hasNeeds l dC dI h a k F15 V16 n (b + 6 * i4 + 2 * i11) s17 H.size hI.1 (by omega) (by omega)) (cwV 1 hts wc_m_oneTick_m_hasNeeds_231 rfl rfl rfl (by decide +kernel) ⟨Nat.le_of_ble_eq_true rfl, Nat.le_of_ble_eq_true rfl⟩) ⟨fun a9 U g mk q => by obtain ⟨q0, q1, qP, qK, qD⟩ := q; exact ⟨q0, q1, qP, va_K.moved (u := U) (U := U.calling g mk a9) (Vm.Alike.refl U.vm) qK, qD⟩, va_recv hK hP (ci := 10) (q0 := 0) rfl rfl, fun U hU hW => ⟨rfl, by rw [hU], by rw [hU]; exact hP, va_K.moved hW.alike hK, hD.weaken (fun _ _ _ _ => trivial)⟩⟩ rfl rfl hl.1 rfl (lv_room (Nat.le_of_ble_eq_true rfl)) dX9_oneTick_63 ⟨Nat.le_of_ble_eq_true rfl, Nat.le_of_ble_eq_true rfl⟩) hS (fun q _ h => hFc q h) hFc (fun r72 u t H1 locs ht hvm hw hB hz1 hk1 hS => ?_)
                  obtain ⟨F73, V74⟩ := u
                  replace hP := hB.1
                  rw [ht] at hP
                  replace hD : va_D A (mW h a k F73 V74) := hB.2.weaken (fun _ q _ h9 => hFc q.1 h9)
                  clear hB
                  generalize H1 = H at hP hS ⊢
                  replace hP : va_P (dC, dI) vwCl (mW h a k F73 V74) H := hP
                  obtain ⟨hwF, hwV, hw⟩ : F73 = F15 ∧ V74 = V16 ∧ _ := hw
                  rw [hwF, hwV] at hP hD
                  have br72 := hw
                  refine lv_if_ne (tgt := 93) hx hb dX9_oneTick_66 (by decide) (fun c75 => ?_) (fun c75 => ?_)
                  · refine lv_iinc (v := nI (s17 + 1)) (lv' := [(1, .int (nI (s17 + 1))), (0, .ref h)]) hx hb dX9_oneTick_93 hl (k := 0) rfl (nI_add s17 1) (by decide) rfl (fun ls hl => ?_)
                    refine lv_goto (tgt := 33) hx hb dX9_oneTick_96 (by decide) ?_
                    exact ih13 i11 (s17 + 1)  F15 V16 _ _ _ (by omega) (by omega) (hI.mono (by omega)) hU hV (by omega) (by omega) tv22 t18 hP hD hS (lv_sub hl [0, 1] rfl)
                  · refine lv_aload_n hx hb dX9_oneTick_69 rfl (lv_at hl 1 rfl) ?_
                    refine lv_iload_n hx hb dX9_oneTick_70 rfl (lv_at hl 0 rfl) ?_
                    refine lv_aload_n hx hb dX9_oneTick_71 rfl (lv_at hl 1 rfl) ?_
                    refine va_get (D := (dC, dI)) (ci := 10) (v := .ref (a 2)) (C := RX9) (T := TX9) (N := 46) hx hb hts in_m_oneTick_X9 hown hK hP 0 rfl rfl 2 (by decide) (hts (.fieldLink RX9 16 "ServiceTreeModel" "stop" "[I") (by decide +kernel)) (fun _ h9 => h9) rfl dX9_oneTick_72 ?_
                    refine lv_iload_n hx hb dX9_oneTick_75 rfl (lv_at hl 0 rfl) ?_
                    refine va_iald (n := 40) (f := F15 2) hx hb hK hP 3 2 rfl rfl (vp_in_nI (n := s17) (by omega) (by decide)) dX9_oneTick_76 ?_
                    refine lv_topi (fun x76 ex76 => ?_)
                    refine lv_if_ne (tgt := 84) hx hb dX9_oneTick_77 (by decide) (fun c77 => ?_) (fun c77 => ?_)
                    · refine lv_iconst (v := 3) hx hb dX9_oneTick_84 (by decide) ?_
                      have hFc := mw_free hD hS hA
                      refine va_callv (va_runV (As := [.int (nI s17), .int 3]) (rest := []) ⟨hx, hb, hml, hown, hts⟩ (c_m_to l dC dI h a k F15 V16 n (b + 6 * i4 + 2 * i11) s17 3 H.size hI.1 (by omega) (by omega)) (cwV 2 hts wc_m_oneTick_m_to_211 rfl rfl rfl (by decide +kernel) ⟨Nat.le_of_ble_eq_true rfl, Nat.le_of_ble_eq_true rfl⟩) ⟨fun a9 U g mk q => by obtain ⟨q0, q1, qP, qK, qD⟩ := q; exact ⟨q0, q1, qP, va_K.moved (u := U) (U := U.calling g mk a9) (Vm.Alike.refl U.vm) qK, qD⟩, va_recv hK hP (ci := 10) (q0 := 0) rfl rfl, fun U hU hW => ⟨rfl, by rw [hU], by rw [hU]; exact hP, va_K.moved hW.alike hK, hD.weaken (fun _ _ _ _ => trivial)⟩⟩ rfl rfl hl.1 rfl (lv_room (Nat.le_of_ble_eq_true rfl)) dX9_oneTick_85 ⟨Nat.le_of_ble_eq_true rfl, Nat.le_of_ble_eq_true rfl⟩) hS (fun q _ h => hFc q h) hFc (fun u t H1 locs ht hvm hw hB hz1 hk1 hS => ?_)
                      obtain ⟨F79, V80⟩ := u
                      replace hP := hB.1
                      rw [ht] at hP
                      replace hD : va_D A (mW h a k F79 V80) := hB.2.weaken (fun _ q _ h9 => hFc q.1 h9)
                      clear hB
                      generalize H1 = H at hP hS ⊢
                      replace hP : va_P (dC, dI) vwCl (mW h a k F79 V80) H := hP
                      obtain ⟨hwI, hwU, hwV, hw⟩ := hw
                      replace hU : ∀ j : Nat, j ∉ ([7, 8, 9, 10, 11, 12, 13, 14, 15, 16, 17, 18, 25, 26, 42, 43, 44] : List Nat) → F79 j = F j := mw_tr (by decide) hwU hU
                      replace hV : ∀ j : Nat, j ∉ ([22, 24, 45] : List Nat) → V80 j = V j := mw_tr (by decide) hwV hV
                      replace hI : StM n (b + 6 * i4 + 2 * i11 + 2) F V F79 V80 := hI.trans hwI
                      replace t18 : F79 18 = F 18 := (hwU 18 (by decide)).trans t18
                      replace tv22 : V80 22 = V 22 + 1 := (hwV 22 (by decide)).trans tv22
                      have hlt : zc (nu (F79 7)) 40 < zc (nu (F15 7)) 40 := by rw [show F79 7 = _ from hw]; exact nu_lt (Or.inr (ex56.symm.trans c71)) (by decide) (by rw [nI_clamp (by omega)]; omega)
                      refine lv_iconst (v := 0) hx hb dX9_oneTick_88 (by decide) ?_
                      refine lv_istore_n (lv' := [(1, .int 0), (0, .ref h)]) hx hb dX9_oneTick_89 rfl hl (by decide) rfl (fun ls hl => ?_)
                      refine lv_goto (tgt := 33) hx hb dX9_oneTick_90 (by decide) ?_
                      exact ih13 (i11 + 1) 0  F79 V80 _ _ _ (by omega) (by omega) (hI.mono (by omega)) hU hV (by omega) (by omega) tv22 t18 hP hD hS (lv_sub hl [0, 1] rfl)
                    · refine lv_iconst (v := 0) hx hb dX9_oneTick_80 (by decide) ?_
                      refine lv_goto (tgt := 85) hx hb dX9_oneTick_81 (by decide) ?_
                      have hFc := mw_free hD hS hA
                      refine va_callv (va_runV (As := [.int (nI s17), .int 0]) (rest := []) ⟨hx, hb, hml, hown, hts⟩ (c_m_to l dC dI h a k F15 V16 n (b + 6 * i4 + 2 * i11) s17 0 H.size hI.1 (by omega) (by omega)) (cwV 2 hts wc_m_oneTick_m_to_211 rfl rfl rfl (by decide +kernel) ⟨Nat.le_of_ble_eq_true rfl, Nat.le_of_ble_eq_true rfl⟩) ⟨fun a9 U g mk q => by obtain ⟨q0, q1, qP, qK, qD⟩ := q; exact ⟨q0, q1, qP, va_K.moved (u := U) (U := U.calling g mk a9) (Vm.Alike.refl U.vm) qK, qD⟩, va_recv hK hP (ci := 10) (q0 := 0) rfl rfl, fun U hU hW => ⟨rfl, by rw [hU], by rw [hU]; exact hP, va_K.moved hW.alike hK, hD.weaken (fun _ _ _ _ => trivial)⟩⟩ rfl rfl hl.1 rfl (lv_room (Nat.le_of_ble_eq_true rfl)) dX9_oneTick_85 ⟨Nat.le_of_ble_eq_true rfl, Nat.le_of_ble_eq_true rfl⟩) hS (fun q _ h => hFc q h) hFc (fun u t H1 locs ht hvm hw hB hz1 hk1 hS => ?_)
                      obtain ⟨F82, V83⟩ := u
                      replace hP := hB.1
                      rw [ht] at hP
                      replace hD : va_D A (mW h a k F82 V83) := hB.2.weaken (fun _ q _ h9 => hFc q.1 h9)
                      clear hB
                      generalize H1 = H at hP hS ⊢
                      replace hP : va_P (dC, dI) vwCl (mW h a k F82 V83) H := hP
                      obtain ⟨hwI, hwU, hwV, hw⟩ := hw
                      replace hU : ∀ j : Nat, j ∉ ([7, 8, 9, 10, 11, 12, 13, 14, 15, 16, 17, 18, 25, 26, 42, 43, 44] : List Nat) → F82 j = F j := mw_tr (by decide) hwU hU
                      replace hV : ∀ j : Nat, j ∉ ([22, 24, 45] : List Nat) → V83 j = V j := mw_tr (by decide) hwV hV
                      replace hI : StM n (b + 6 * i4 + 2 * i11 + 2) F V F82 V83 := hI.trans hwI
                      replace t18 : F82 18 = F 18 := (hwU 18 (by decide)).trans t18
                      replace tv22 : V83 22 = V 22 + 1 := (hwV 22 (by decide)).trans tv22
                      have hlt : zc (nu (F82 7)) 40 < zc (nu (F15 7)) 40 := by rw [show F82 7 = _ from hw]; exact nu_lt (Or.inr (ex56.symm.trans c71)) (by decide) (by rw [nI_clamp (by omega)]; omega)
                      refine lv_iconst (v := 0) hx hb dX9_oneTick_88 (by decide) ?_
                      refine lv_istore_n (lv' := [(1, .int 0), (0, .ref h)]) hx hb dX9_oneTick_89 rfl hl (by decide) rfl (fun ls hl => ?_)
                      refine lv_goto (tgt := 33) hx hb dX9_oneTick_90 (by decide) ?_
                      exact ih13 (i11 + 1) 0  F82 V83 _ _ _ (by omega) (by omega) (hI.mono (by omega)) hU hV (by omega) (by omega) tv22 t18 hP hD hS (lv_sub hl [0, 1] rfl)
        exact lp14 1682 0 0  F8 V9 _ _ _ (show zc (nu (F8 7)) 40 * 41 + (n - 0) < 1682 by have := zc_le (nu (F8 7)) 40; omega) (by omega) (hI.mono (by omega)) hU hV (show 0 + zc (nu (F8 7)) 40 ≤ 40 by have := zc_le (nu (F8 7)) 40; omega) (by omega) tv22 t18 hP hD hS hl
      · replace c10 : ¬ (n ≤ i4) := fun q9 => c10 ((nI_leI (a := n) (b := i4) (by omega) (by omega)).mpr q9)
        refine lv_aload_n hx hb dX9_oneTick_20 rfl (lv_at hl 1 rfl) ?_
        refine lv_iload_n hx hb dX9_oneTick_21 rfl (lv_at hl 0 rfl) ?_
        have hFc := mw_free hD hS hA
        refine va_callv (va_runV (As := [.int (nI i4)]) (rest := []) ⟨hx, hb, hml, hown, hts⟩ (c_m_step l dC dI h a k F8 V9 n (b + 6 * i4) i4 H.size hI.1 (by omega) (by omega)) (cwV 1 hts wc_m_oneTick_m_step_240 rfl rfl rfl (by decide +kernel) ⟨Nat.le_of_ble_eq_true rfl, Nat.le_of_ble_eq_true rfl⟩) ⟨fun a9 U g mk q => by obtain ⟨q0, q1, qP, qK, qD⟩ := q; exact ⟨q0, q1, qP, va_K.moved (u := U) (U := U.calling g mk a9) (Vm.Alike.refl U.vm) qK, qD⟩, va_recv hK hP (ci := 10) (q0 := 0) rfl rfl, fun U hU hW => ⟨rfl, by rw [hU], by rw [hU]; exact hP, va_K.moved hW.alike hK, hD.weaken (fun _ _ _ _ => trivial)⟩⟩ rfl rfl hl.1 rfl (lv_room (Nat.le_of_ble_eq_true rfl)) dX9_oneTick_22 ⟨Nat.le_of_ble_eq_true rfl, Nat.le_of_ble_eq_true rfl⟩) hS (fun q _ h => hFc q h) hFc (fun u t H1 locs ht hvm hw hB hz1 hk1 hS => ?_)
        obtain ⟨F85, V86⟩ := u
        replace hP := hB.1
        rw [ht] at hP
        replace hD : va_D A (mW h a k F85 V86) := hB.2.weaken (fun _ q _ h9 => hFc q.1 h9)
        clear hB
        generalize H1 = H at hP hS ⊢
        replace hP : va_P (dC, dI) vwCl (mW h a k F85 V86) H := hP
        obtain ⟨hwI, hwU, hwV, hw⟩ := hw
        replace hU : ∀ j : Nat, j ∉ ([7, 8, 9, 10, 11, 12, 13, 14, 15, 16, 17, 18, 25, 26, 42, 43, 44] : List Nat) → F85 j = F j := mw_tr (by decide) hwU hU
        replace hV : ∀ j : Nat, j ∉ ([22, 24, 45] : List Nat) → V86 j = V j := mw_tr (by decide) hwV hV
        replace hI : StM n (b + 6 * i4 + 6) F V F85 V86 := hI.trans hwI
        replace t18 : F85 18 = F 18 := (hwU 18 (by decide)).trans t18
        replace tv22 : V86 22 = V 22 + 1 := (hwV 22 (by decide)).trans tv22
        refine lv_iinc (v := nI (i4 + 1)) (lv' := [(1, .int (nI (i4 + 1))), (0, .ref h)]) hx hb dX9_oneTick_25 hl (k := 0) rfl (nI_add i4 1) (by decide) rfl (fun ls hl => ?_)
        refine lv_goto (tgt := 12) hx hb dX9_oneTick_28 (by decide) ?_
        exact ih6 (i4 + 1)  F85 V86 _ _ _ (by omega) (by omega) (hI.mono (by omega)) hU hV tv22 t18 hP hD hS (lv_sub hl [0, 1] rfl)
  exact lp7 (n + 1) 0  F V3 _ _ _ (by omega) (by omega) (hI.mono (by omega)) hU hV tv22 t18 hP hD hS hl
def wq_m_tick : List Cond := [.code yX9_tick cX9_tick 3 (some .int), .fieldLink RX9 129 "ServiceTreeModel" "tick" "I", .methodLink RX9 246 yX9_oneTick, .instanceMethod yX9_oneTick, .selects RX9 yX9_oneTick yX9_oneTick, .initialized RX9] ++ (wsX90 ++ (wq_m_oneTick))
theorem in_m_tick_X9 : ∀ w ∈ wsX90, w ∈ wq_m_tick := fun _ h => List.mem_append_right _ (List.mem_append_left _ (h))
set_option maxRecDepth 20000 in
theorem wi_m_tick : ∀ w ∈ wq_m_tick, w ∈ lw_tbl := List.forall_mem_append.mpr ⟨(by decide +kernel), List.forall_mem_append.mpr ⟨inKX9, wi_m_oneTick⟩⟩
set_option maxRecDepth 20000 in
theorem wg_m_tick : GoodIn wq_m_tick wq_m_tick := goodIn_sub (fun _ h => h) (by decide +kernel)
set_option maxRecDepth 20000 in
theorem wc_m_tick_m_oneTick_246 : GoodIn wq_m_tick (wsV RX9 246 RX9 yX9_oneTick wq_m_oneTick) := goodIn_app (goodIn_of _ (by decide +kernel)) (fun w h => ⟨List.mem_append_right _ (List.mem_append_right _ (h)), (wg_m_oneTick w h).2⟩)
def rm_m_tick : Room := { frames := 5, cells := 0, slots := 0, locals := 114 }
set_option maxHeartbeats 4000000 in
set_option maxRecDepth 100000 in
theorem c_m_tick (l : Launch) (dC : Nat → ClassId) (dI : Nat → Nat → Nat) (h : Nat) (a : Nat → Nat) (k : Nat → ClassId) (F : Nat → Nat → Int32) (V : Nat → Int32) (n b : Nat) (p0 : Int32) (sz : Nat) (hI0 : InvM n b F V) (hb0 : b + 402000 < 2147483648)  : Met l yX9_tick wq_m_tick rm_m_tick (va_Pc [.ref h, .int p0] (fun U => U.heap.size = sz ∧ va_P (dC, dI) vwCl (mW h a k F V) U.heap ∧ va_K (dC, dI) vwCl (mT k) U ∧ va_D (fun _ => True) (mW h a k F V))) (va_Qi (fun (r : Int32) (u : (Nat → Nat → Int32) × (Nat → Int32)) => StM n (b + 402000) F V u.1 u.2 ∧ (∀ j : Nat, j ∉ ([7, 8, 9, 10, 11, 12, 13, 14, 15, 16, 17, 18, 25, 26, 42, 43, 44] : List Nat) → u.1 j = F j) ∧ (∀ j : Nat, j ∉ ([22, 24, 45] : List Nat) → u.2 j = V j) ∧ (r = (if 1 ≤ p0 ∧ p0 ≤ 1000 then V 22 + p0 else -1) ∧ u.2 22 = (if 1 ≤ p0 ∧ p0 ≤ 1000 then V 22 + p0 else V 22))) (fun (u : (Nat → Nat → Int32) × (Nat → Int32)) (t : State) => va_P (dC, dI) vwCl (mW h a k u.1 u.2) t.heap ∧ va_D (va_A (mW h a k F V) sz) (mW h a k u.1 u.2)) (va_A (mW h a k F V) sz)) 0 0 (va_A (mW h a k F V) sz) := by
  have hn : n ≤ 40 := hI0.1
  have hI : StM n b F V F V := StM.rf hI0
  have hU : ∀ j : Nat, j ∉ ([7, 8, 9, 10, 11, 12, 13, 14, 15, 16, 17, 18, 25, 26, 42, 43, 44] : List Nat) → F j = F j := fun _ _ => rfl
  have hV : ∀ j : Nat, j ∉ ([22, 24, 45] : List Nat) → V j = V j := fun _ _ => rfl
  refine Met.ofW (cc := cX9_tick) (maxL := 3) (ret := (some .int)) (by decide) rfl ?_
  intro p e s m args below meth c s₁ B hml hv
  obtain ⟨rfl, hsz, hP, hK, hD0⟩ := hv
  have hx := B.exec
  have hb := B.bytes
  have hr := B.returns
  have hts := atoms_spec (ws := wq_m_tick) B.pre
  have hown : s.vm.findClass RX9 = some m.cls := findClass_of_methodNamed B.named
  have hlocks := B.notSynchronized
  subst hsz
  have hD := hD0.self (sz := s.heap.size)
  generalize hAe : va_A (mW h a k F V) s.heap.size = A at hD ⊢
  have hA : ∀ q : Nat, s.heap.size ≤ q → A q := fun q h => by rw [← hAe]; exact Or.inr h
  have hS : va_S A s.heap s.heap [] := va_S.rf
  have hl := lv_entry ([.ref h, .int p0]) (n := 3) (Nat.le_of_ble_eq_true rfl)
  rw [lg_entry_eq]
  generalize (lg_sl ([.ref h, .int p0]) ++ List.replicate (3 - (lg_sl ([.ref h, .int p0])).length) Slot.unset).toArray = ls at hl ⊢
  have hl : lv_has ls 3 [(0, .ref h), (1, .int p0)] := hl
  refine mw_Q (fun Q0 hQ => ?_)
  refine lv_iload_n hx hb dX9_tick_0 rfl (lv_at hl 1 rfl) ?_
  refine lv_iconst (v := 1) hx hb dX9_tick_1 (by decide) ?_
  refine lv_icmp_lt (tgt := 12) hx hb dX9_tick_2 (by decide) (fun c1 => ?_) (fun c1 => ?_)
  · refine lv_iconst (v := (-1)) hx hb dX9_tick_12 (by decide) ?_
    rw [hQ]
    exact W.iret (v := (-1)) hx hb hr (fun t ht hW => ⟨⟨(-1), (F, V), rfl, ⟨hI.mono (by omega), hU, hV, ⟨(if_neg (by have k0 := c1; simp only [p1_le, p1_lt, p1_eq, p1_m6, p1_m1, p1_0, p1_1, p1_2, p1_3, p1_4, p1_5, p1_6, p1_7, p1_8, p1_9, p1_10, p1_11, p1_12, p1_13, p1_14, p1_15, p1_16, p1_17, p1_18, p1_19, p1_20, p1_40, p1_50, p1_200, p1_1000] at k0 ⊢; omega)).symm, (if_neg (by have k0 := c1; simp only [p1_le, p1_lt, p1_eq, p1_m6, p1_m1, p1_0, p1_1, p1_2, p1_3, p1_4, p1_5, p1_6, p1_7, p1_8, p1_9, p1_10, p1_11, p1_12, p1_13, p1_14, p1_15, p1_16, p1_17, p1_18, p1_19, p1_20, p1_40, p1_50, p1_200, p1_1000] at k0 ⊢; omega)).symm⟩⟩, by rw [ht]; exact hP, hD⟩, hS.F ht⟩) hS.2.2 dX9_tick_13
  · refine lv_iload_n hx hb dX9_tick_5 rfl (lv_at hl 1 rfl) ?_
    refine lv_sipush (v := 1000) hx hb dX9_tick_6 (by decide) ?_
    refine lv_icmp_le (tgt := 14) hx hb dX9_tick_9 (by decide) (fun c2 => ?_) (fun c2 => ?_)
    · have hok : 1 ≤ p0 ∧ p0 ≤ 1000 := by have k0 := c1; have k1 := c2; simp only [p1_le, p1_lt, p1_eq, p1_m6, p1_m1, p1_0, p1_1, p1_2, p1_3, p1_4, p1_5, p1_6, p1_7, p1_8, p1_9, p1_10, p1_11, p1_12, p1_13, p1_14, p1_15, p1_16, p1_17, p1_18, p1_19, p1_20, p1_40, p1_50, p1_200, p1_1000] at k0 k1 ⊢; omega
      obtain ⟨N, hNb, eN⟩ := nI_of2 (x := p0) (M := 1000) (n := 1000) (by decide) (by have k0 := hok; simp only [p1_le, p1_lt, p1_eq, p1_m6, p1_m1, p1_0, p1_1, p1_2, p1_3, p1_4, p1_5, p1_6, p1_7, p1_8, p1_9, p1_10, p1_11, p1_12, p1_13, p1_14, p1_15, p1_16, p1_17, p1_18, p1_19, p1_20, p1_40, p1_50, p1_200, p1_1000] at k0 ⊢; omega) hok.2
      subst eN
      refine lv_iconst (v := 0) hx hb dX9_tick_14 (by decide) ?_
      refine lv_istore_n (lv' := [(2, .int 0), (0, .ref h), (1, .int (nI N))]) hx hb dX9_tick_15 rfl hl (by decide) rfl (fun ls hl => ?_)
      have lp6 : ∀ (fu4 i3 : Nat)  (F7 : Nat → Nat → Int32) (V8 : Nat → Int32) (H : Heap) (locs : List Loc) (ls : Array Slot), N < i3 + fu4 → i3 ≤ N → StM n (b + 402 * i3) F V F7 V8 → (∀ j : Nat, j ∉ ([7, 8, 9, 10, 11, 12, 13, 14, 15, 16, 17, 18, 25, 26, 42, 43, 44] : List Nat) → F7 j = F j) → (∀ j : Nat, j ∉ ([22, 24, 45] : List Nat) → V8 j = V j) → V8 22 = V 22 + nI i3 → va_P (dC, dI) vwCl (mW h a k F7 V8) H → va_D A (mW h a k F7 V8) → va_S A s.heap H locs → lv_has ls 3 [(2, .int (nI i3)), (0, .ref h), (1, .int (nI N))] → W p l e (headSpec wq_m_tick rm_m_tick).room s m ([.ref h, .int (nI N)] : List Value).toArray below meth c H locs 0 0 Q0 (F0 m 16 ls []) := by
        intro fu4
        induction fu4 with
        | zero =>
          intro i3  F7 V8 H locs ls hf hi
          exact absurd hf (by omega)
        | succ fu4 ih5 =>
          intro i3  F7 V8 H locs ls hfi3 hii3 hI hU hV htki3 hP hD hS hl
          refine lv_iload_n hx hb dX9_tick_16 rfl (lv_at hl 0 rfl) ?_
          refine lv_iload_n hx hb dX9_tick_17 rfl (lv_at hl 2 rfl) ?_
          refine lv_icmp_ge (tgt := 31) hx hb dX9_tick_18 (by decide) (fun c9 => ?_) (fun c9 => ?_)
          · replace c9 : N ≤ i3 := (nI_leI (a := N) (b := i3) (by omega) (by omega)).mp c9
            refine lv_aload_n hx hb dX9_tick_31 rfl (lv_at hl 1 rfl) ?_
            refine va_get (D := (dC, dI)) (ci := 10) (v := .int (V8 22)) (C := RX9) (T := TX9) (N := 46) hx hb hts in_m_tick_X9 hown hK hP 0 rfl rfl 22 (by decide) (hts (.fieldLink RX9 129 "ServiceTreeModel" "tick" "I") (by decide +kernel)) (fun _ h9 => h9) rfl dX9_tick_32 ?_
            refine lv_topi (fun x10 ex10 => ?_)
            rw [hQ]
            exact W.iret (v := x10) hx hb hr (fun t ht hW => ⟨⟨x10, (F7, V8), rfl, ⟨hI.mono (by omega), hU, hV, ⟨(by rw [if_pos hok, ex10, htki3, show i3 = N by omega]), (by rw [if_pos hok]; show V8 22 = _; rw [htki3, show i3 = N by omega])⟩⟩, by rw [ht]; exact hP, hD⟩, hS.F ht⟩) hS.2.2 dX9_tick_35
          · replace c9 : ¬ (N ≤ i3) := fun q9 => c9 ((nI_leI (a := N) (b := i3) (by omega) (by omega)).mpr q9)
            refine lv_aload_n hx hb dX9_tick_21 rfl (lv_at hl 1 rfl) ?_
            have hFc := mw_free hD hS hA
            refine va_callv (va_runV (As := []) (rest := []) ⟨hx, hb, hml, hown, hts⟩ (c_m_oneTick l dC dI h a k F7 V8 n (b + 402 * i3)  H.size hI.1 (by omega) ) (cwV 0 hts wc_m_tick_m_oneTick_246 rfl rfl rfl (by decide +kernel) ⟨Nat.le_of_ble_eq_true rfl, Nat.le_of_ble_eq_true rfl⟩) ⟨fun a9 U g mk q => by obtain ⟨q0, q1, qP, qK, qD⟩ := q; exact ⟨q0, q1, qP, va_K.moved (u := U) (U := U.calling g mk a9) (Vm.Alike.refl U.vm) qK, qD⟩, va_recv hK hP (ci := 10) (q0 := 0) rfl rfl, fun U hU hW => ⟨rfl, by rw [hU], by rw [hU]; exact hP, va_K.moved hW.alike hK, hD.weaken (fun _ _ _ _ => trivial)⟩⟩ rfl rfl hl.1 rfl (lv_room (Nat.le_of_ble_eq_true rfl)) dX9_tick_22 ⟨Nat.le_of_ble_eq_true rfl, Nat.le_of_ble_eq_true rfl⟩) hS (fun q _ h => hFc q h) hFc (fun u t H1 locs ht hvm hw hB hz1 hk1 hS => ?_)
            obtain ⟨F12, V13⟩ := u
            replace hP := hB.1
            rw [ht] at hP
            replace hD : va_D A (mW h a k F12 V13) := hB.2.weaken (fun _ q _ h9 => hFc q.1 h9)
            clear hB
            generalize H1 = H at hP hS ⊢
            replace hP : va_P (dC, dI) vwCl (mW h a k F12 V13) H := hP
            obtain ⟨hwI, hwU, hwV, hw⟩ := hw
            replace hU : ∀ j : Nat, j ∉ ([7, 8, 9, 10, 11, 12, 13, 14, 15, 16, 17, 18, 25, 26, 42, 43, 44] : List Nat) → F12 j = F j := mw_tr (by decide) hwU hU
            replace hV : ∀ j : Nat, j ∉ ([22, 24, 45] : List Nat) → V13 j = V j := mw_tr (by decide) hwV hV
            replace hI : StM n (b + 402 * i3 + 402) F V F12 V13 := hI.trans hwI
            have hwt := hw
            refine lv_iinc (v := nI (i3 + 1)) (lv' := [(2, .int (nI (i3 + 1))), (0, .ref h), (1, .int (nI N))]) hx hb dX9_tick_25 hl (k := 0) rfl (nI_add i3 1) (by decide) rfl (fun ls hl => ?_)
            refine lv_goto (tgt := 16) hx hb dX9_tick_28 (by decide) ?_
            exact ih5 (i3 + 1)  F12 V13 _ _ _ (by omega) (by omega) (hI.mono (by omega)) hU hV (by rw [show V13 22 = _ from hwt, htki3, nI_succ, Int32.add_assoc]) hP hD hS (lv_sub hl [0, 1, 2] rfl)
      exact lp6 (N + 1) 0  F V _ _ _ (by omega) (by omega) (hI.mono (by omega)) hU hV (by rw [nI_0]; exact (Int32.add_zero _).symm) hP hD hS hl
    · refine lv_iconst (v := (-1)) hx hb dX9_tick_12 (by decide) ?_
      rw [hQ]
      exact W.iret (v := (-1)) hx hb hr (fun t ht hW => ⟨⟨(-1), (F, V), rfl, ⟨hI.mono (by omega), hU, hV, ⟨(if_neg (by have k0 := c1; have k1 := c2; simp only [p1_le, p1_lt, p1_eq, p1_m6, p1_m1, p1_0, p1_1, p1_2, p1_3, p1_4, p1_5, p1_6, p1_7, p1_8, p1_9, p1_10, p1_11, p1_12, p1_13, p1_14, p1_15, p1_16, p1_17, p1_18, p1_19, p1_20, p1_40, p1_50, p1_200, p1_1000] at k0 k1 ⊢; omega)).symm, (if_neg (by have k0 := c1; have k1 := c2; simp only [p1_le, p1_lt, p1_eq, p1_m6, p1_m1, p1_0, p1_1, p1_2, p1_3, p1_4, p1_5, p1_6, p1_7, p1_8, p1_9, p1_10, p1_11, p1_12, p1_13, p1_14, p1_15, p1_16, p1_17, p1_18, p1_19, p1_20, p1_40, p1_50, p1_200, p1_1000] at k0 k1 ⊢; omega)).symm⟩⟩, by rw [ht]; exact hP, hD⟩, hS.F ht⟩) hS.2.2 dX9_tick_13
