theorem dX8_passTick_0 : decode cX8_passTick 0 = .ok (.aload_n 0, 1) := by decide +kernel
theorem dX8_passTick_1 : decode cX8_passTick 1 = .ok (.dup, 1) := by decide +kernel
theorem dX8_passTick_2 : decode cX8_passTick 2 = .ok (.getfield 67, 3) := by decide +kernel
theorem dX8_passTick_5 : decode cX8_passTick 5 = .ok (.iconst 1, 1) := by decide +kernel
theorem dX8_passTick_6 : decode cX8_passTick 6 = .ok (.iadd, 1) := by decide +kernel
theorem dX8_passTick_7 : decode cX8_passTick 7 = .ok (.putfield 67, 3) := by decide +kernel
theorem dX8_passTick_10 : decode cX8_passTick 10 = .ok (.aload_n 0, 1) := by decide +kernel
theorem dX8_passTick_11 : decode cX8_passTick 11 = .ok (.getfield 53, 3) := by decide +kernel
theorem dX8_passTick_14 : decode cX8_passTick 14 = .ok (.iconst 1, 1) := by decide +kernel
theorem dX8_passTick_15 : decode cX8_passTick 15 = .ok (.laload, 1) := by decide +kernel
theorem dX8_passTick_16 : decode cX8_passTick 16 = .ok (.aload_n 0, 1) := by decide +kernel
theorem dX8_passTick_17 : decode cX8_passTick 17 = .ok (.getfield 53, 3) := by decide +kernel
theorem dX8_passTick_20 : decode cX8_passTick 20 = .ok (.iconst 3, 1) := by decide +kernel
theorem dX8_passTick_21 : decode cX8_passTick 21 = .ok (.laload, 1) := by decide +kernel
theorem dX8_passTick_22 : decode cX8_passTick 22 = .ok (.lor, 1) := by decide +kernel
theorem dX8_passTick_23 : decode cX8_passTick 23 = .ok (.aload_n 0, 1) := by decide +kernel
theorem dX8_passTick_24 : decode cX8_passTick 24 = .ok (.getfield 53, 3) := by decide +kernel
theorem dX8_passTick_27 : decode cX8_passTick 27 = .ok (.iconst 5, 1) := by decide +kernel
theorem dX8_passTick_28 : decode cX8_passTick 28 = .ok (.laload, 1) := by decide +kernel
theorem dX8_passTick_29 : decode cX8_passTick 29 = .ok (.lor, 1) := by decide +kernel
theorem dX8_passTick_30 : decode cX8_passTick 30 = .ok (.aload_n 0, 1) := by decide +kernel
theorem dX8_passTick_31 : decode cX8_passTick 31 = .ok (.getfield 311, 3) := by decide +kernel
theorem dX8_passTick_34 : decode cX8_passTick 34 = .ok (.lor, 1) := by decide +kernel
theorem dX8_passTick_35 : decode cX8_passTick 35 = .ok (.lstore_n 1, 1) := by decide +kernel
theorem dX8_passTick_36 : decode cX8_passTick 36 = .ok (.lload_n 1, 1) := by decide +kernel
theorem dX8_passTick_37 : decode cX8_passTick 37 = .ok (.lconst 0, 1) := by decide +kernel
theorem dX8_passTick_38 : decode cX8_passTick 38 = .ok (.lcmp, 1) := by decide +kernel
theorem dX8_passTick_39 : decode cX8_passTick 39 = .ok (.ifCond .eq 56, 3) := by decide +kernel
theorem dX8_passTick_42 : decode cX8_passTick 42 = .ok (.iconst 0, 1) := by decide +kernel
theorem dX8_passTick_43 : decode cX8_passTick 43 = .ok (.istore_n 3, 1) := by decide +kernel
theorem dX8_passTick_44 : decode cX8_passTick 44 = .ok (.iload_n 3, 1) := by decide +kernel
theorem dX8_passTick_45 : decode cX8_passTick 45 = .ok (.aload_n 0, 1) := by decide +kernel
theorem dX8_passTick_46 : decode cX8_passTick 46 = .ok (.getfield 10, 3) := by decide +kernel
theorem dX8_passTick_49 : decode cX8_passTick 49 = .ok (.invokevirtual 61, 3) := by decide +kernel
theorem dX8_passTick_52 : decode cX8_passTick 52 = .ok (.if_icmp .ge 43, 3) := by decide +kernel
theorem dX8_passTick_55 : decode cX8_passTick 55 = .ok (.lload_n 1, 1) := by decide +kernel
theorem dX8_passTick_56 : decode cX8_passTick 56 = .ok (.iload_n 3, 1) := by decide +kernel
theorem dX8_passTick_57 : decode cX8_passTick 57 = .ok (.invokestatic 114, 3) := by decide +kernel
theorem dX8_passTick_60 : decode cX8_passTick 60 = .ok (.ifCond .eq 29, 3) := by decide +kernel
theorem dX8_passTick_63 : decode cX8_passTick 63 = .ok (.aload_n 0, 1) := by decide +kernel
theorem dX8_passTick_64 : decode cX8_passTick 64 = .ok (.getfield 10, 3) := by decide +kernel
theorem dX8_passTick_67 : decode cX8_passTick 67 = .ok (.iload_n 3, 1) := by decide +kernel
theorem dX8_passTick_68 : decode cX8_passTick 68 = .ok (.invokevirtual 86, 3) := by decide +kernel
theorem dX8_passTick_71 : decode cX8_passTick 71 = .ok (.checkcast 65, 3) := by decide +kernel
theorem dX8_passTick_74 : decode cX8_passTick 74 = .ok (.aload_n 0, 1) := by decide +kernel
theorem dX8_passTick_75 : decode cX8_passTick 75 = .ok (.getfield 67, 3) := by decide +kernel
theorem dX8_passTick_78 : decode cX8_passTick 78 = .ok (.invokevirtual 283, 3) := by decide +kernel
theorem dX8_passTick_81 : decode cX8_passTick 81 = .ok (.ifCond .eq 8, 3) := by decide +kernel
theorem dX8_passTick_84 : decode cX8_passTick 84 = .ok (.aload_n 0, 1) := by decide +kernel
theorem dX8_passTick_85 : decode cX8_passTick 85 = .ok (.iload_n 3, 1) := by decide +kernel
theorem dX8_passTick_86 : decode cX8_passTick 86 = .ok (.invokevirtual 314, 3) := by decide +kernel
theorem dX8_passTick_89 : decode cX8_passTick 89 = .ok (.iinc 3 1, 3) := by decide +kernel
theorem dX8_passTick_92 : decode cX8_passTick 92 = .ok (.goto (-48), 3) := by decide +kernel
theorem dX8_passTick_95 : decode cX8_passTick 95 = .ok (.aload_n 0, 1) := by decide +kernel
theorem dX8_passTick_96 : decode cX8_passTick 96 = .ok (.invokevirtual 317, 3) := by decide +kernel
theorem dX8_passTick_99 : decode cX8_passTick 99 = .ok (.aload_n 0, 1) := by decide +kernel
theorem dX8_passTick_100 : decode cX8_passTick 100 = .ok (.invokevirtual 320, 3) := by decide +kernel
theorem dX8_passTick_103 : decode cX8_passTick 103 = .ok (.aload_n 0, 1) := by decide +kernel
theorem dX8_passTick_104 : decode cX8_passTick 104 = .ok (.invokevirtual 260, 3) := by decide +kernel
theorem dX8_passTick_107 : decode cX8_passTick 107 = .ok (.return_, 1) := by decide +kernel
theorem dX8_stopTheLacking_0 : decode cX8_stopTheLacking 0 = .ok (.aload_n 0, 1) := by decide +kernel
theorem dX8_stopTheLacking_1 : decode cX8_stopTheLacking 1 = .ok (.getfield 49, 3) := by decide +kernel
theorem dX8_stopTheLacking_4 : decode cX8_stopTheLacking 4 = .ok (.getfield 219, 3) := by decide +kernel
theorem dX8_stopTheLacking_7 : decode cX8_stopTheLacking 7 = .ok (.aload_n 0, 1) := by decide +kernel
theorem dX8_stopTheLacking_8 : decode cX8_stopTheLacking 8 = .ok (.getfield 335, 3) := by decide +kernel
theorem dX8_stopTheLacking_11 : decode cX8_stopTheLacking 11 = .ok (.if_icmp .ne 4, 3) := by decide +kernel
theorem dX8_stopTheLacking_14 : decode cX8_stopTheLacking 14 = .ok (.return_, 1) := by decide +kernel
theorem dX8_stopTheLacking_15 : decode cX8_stopTheLacking 15 = .ok (.iconst 0, 1) := by decide +kernel
theorem dX8_stopTheLacking_16 : decode cX8_stopTheLacking 16 = .ok (.istore_n 1, 1) := by decide +kernel
theorem dX8_stopTheLacking_17 : decode cX8_stopTheLacking 17 = .ok (.iload_n 1, 1) := by decide +kernel
theorem dX8_stopTheLacking_18 : decode cX8_stopTheLacking 18 = .ok (.bipush 40, 2) := by decide +kernel
theorem dX8_stopTheLacking_20 : decode cX8_stopTheLacking 20 = .ok (.if_icmp .ge 44, 3) := by decide +kernel
theorem dX8_stopTheLacking_23 : decode cX8_stopTheLacking 23 = .ok (.aload_n 0, 1) := by decide +kernel
theorem dX8_stopTheLacking_24 : decode cX8_stopTheLacking 24 = .ok (.invokevirtual 221, 3) := by decide +kernel
theorem dX8_stopTheLacking_27 : decode cX8_stopTheLacking 27 = .ok (.istore_n 2, 1) := by decide +kernel
theorem dX8_stopTheLacking_28 : decode cX8_stopTheLacking 28 = .ok (.aload_n 0, 1) := by decide +kernel
theorem dX8_stopTheLacking_29 : decode cX8_stopTheLacking 29 = .ok (.iload_n 2, 1) := by decide +kernel
theorem dX8_stopTheLacking_30 : decode cX8_stopTheLacking 30 = .ok (.invokevirtual 82, 3) := by decide +kernel
theorem dX8_stopTheLacking_33 : decode cX8_stopTheLacking 33 = .ok (.ifCond .ne 6, 3) := by decide +kernel
theorem dX8_stopTheLacking_36 : decode cX8_stopTheLacking 36 = .ok (.goto 28, 3) := by decide +kernel
theorem dX8_stopTheLacking_39 : decode cX8_stopTheLacking 39 = .ok (.aload_n 0, 1) := by decide +kernel
theorem dX8_stopTheLacking_40 : decode cX8_stopTheLacking 40 = .ok (.iload_n 2, 1) := by decide +kernel
theorem dX8_stopTheLacking_41 : decode cX8_stopTheLacking 41 = .ok (.aload_n 0, 1) := by decide +kernel
theorem dX8_stopTheLacking_42 : decode cX8_stopTheLacking 42 = .ok (.getfield 10, 3) := by decide +kernel
theorem dX8_stopTheLacking_45 : decode cX8_stopTheLacking 45 = .ok (.iload_n 2, 1) := by decide +kernel
theorem dX8_stopTheLacking_46 : decode cX8_stopTheLacking 46 = .ok (.invokevirtual 86, 3) := by decide +kernel
theorem dX8_stopTheLacking_49 : decode cX8_stopTheLacking 49 = .ok (.checkcast 65, 3) := by decide +kernel
theorem dX8_stopTheLacking_52 : decode cX8_stopTheLacking 52 = .ok (.invokevirtual 308, 3) := by decide +kernel
theorem dX8_stopTheLacking_55 : decode cX8_stopTheLacking 55 = .ok (.invokevirtual 249, 3) := by decide +kernel
theorem dX8_stopTheLacking_58 : decode cX8_stopTheLacking 58 = .ok (.iinc 1 1, 3) := by decide +kernel
theorem dX8_stopTheLacking_61 : decode cX8_stopTheLacking 61 = .ok (.goto (-44), 3) := by decide +kernel
theorem dX8_stopTheLacking_64 : decode cX8_stopTheLacking 64 = .ok (.aload_n 0, 1) := by decide +kernel
theorem dX8_stopTheLacking_65 : decode cX8_stopTheLacking 65 = .ok (.aload_n 0, 1) := by decide +kernel
theorem dX8_stopTheLacking_66 : decode cX8_stopTheLacking 66 = .ok (.getfield 49, 3) := by decide +kernel
theorem dX8_stopTheLacking_69 : decode cX8_stopTheLacking 69 = .ok (.getfield 219, 3) := by decide +kernel
theorem dX8_stopTheLacking_72 : decode cX8_stopTheLacking 72 = .ok (.putfield 335, 3) := by decide +kernel
theorem dX8_stopTheLacking_75 : decode cX8_stopTheLacking 75 = .ok (.return_, 1) := by decide +kernel
theorem dX8_readLetters_0 : decode cX8_readLetters 0 = .ok (.aload_n 0, 1) := by decide +kernel
theorem dX8_readLetters_1 : decode cX8_readLetters 1 = .ok (.getfield 158, 3) := by decide +kernel
theorem dX8_readLetters_4 : decode cX8_readLetters 4 = .ok (.aload_n 0, 1) := by decide +kernel
theorem dX8_readLetters_5 : decode cX8_readLetters 5 = .ok (.getfield 53, 3) := by decide +kernel
theorem dX8_readLetters_8 : decode cX8_readLetters 8 = .ok (.iconst 2, 1) := by decide +kernel
theorem dX8_readLetters_9 : decode cX8_readLetters 9 = .ok (.laload, 1) := by decide +kernel
theorem dX8_readLetters_10 : decode cX8_readLetters 10 = .ok (.land, 1) := by decide +kernel
theorem dX8_readLetters_11 : decode cX8_readLetters 11 = .ok (.lstore_n 1, 1) := by decide +kernel
theorem dX8_readLetters_12 : decode cX8_readLetters 12 = .ok (.lload_n 1, 1) := by decide +kernel
theorem dX8_readLetters_13 : decode cX8_readLetters 13 = .ok (.lconst 0, 1) := by decide +kernel
theorem dX8_readLetters_14 : decode cX8_readLetters 14 = .ok (.lcmp, 1) := by decide +kernel
theorem dX8_readLetters_15 : decode cX8_readLetters 15 = .ok (.ifCond .ne 4, 3) := by decide +kernel
theorem dX8_readLetters_18 : decode cX8_readLetters 18 = .ok (.return_, 1) := by decide +kernel
theorem dX8_readLetters_19 : decode cX8_readLetters 19 = .ok (.iconst 0, 1) := by decide +kernel
theorem dX8_readLetters_20 : decode cX8_readLetters 20 = .ok (.istore_n 3, 1) := by decide +kernel
theorem dX8_readLetters_21 : decode cX8_readLetters 21 = .ok (.iload_n 3, 1) := by decide +kernel
theorem dX8_readLetters_22 : decode cX8_readLetters 22 = .ok (.aload_n 0, 1) := by decide +kernel
theorem dX8_readLetters_23 : decode cX8_readLetters 23 = .ok (.getfield 10, 3) := by decide +kernel
theorem dX8_readLetters_26 : decode cX8_readLetters 26 = .ok (.invokevirtual 61, 3) := by decide +kernel
theorem dX8_readLetters_29 : decode cX8_readLetters 29 = .ok (.if_icmp .ge 73, 3) := by decide +kernel
theorem dX8_readLetters_32 : decode cX8_readLetters 32 = .ok (.lload_n 1, 1) := by decide +kernel
theorem dX8_readLetters_33 : decode cX8_readLetters 33 = .ok (.iload_n 3, 1) := by decide +kernel
theorem dX8_readLetters_34 : decode cX8_readLetters 34 = .ok (.invokestatic 114, 3) := by decide +kernel
theorem dX8_readLetters_37 : decode cX8_readLetters 37 = .ok (.ifCond .eq 59, 3) := by decide +kernel
theorem dX8_readLetters_40 : decode cX8_readLetters 40 = .ok (.aload_n 0, 1) := by decide +kernel
theorem dX8_readLetters_41 : decode cX8_readLetters 41 = .ok (.getfield 10, 3) := by decide +kernel
theorem dX8_readLetters_44 : decode cX8_readLetters 44 = .ok (.iload_n 3, 1) := by decide +kernel
theorem dX8_readLetters_45 : decode cX8_readLetters 45 = .ok (.invokevirtual 86, 3) := by decide +kernel
theorem dX8_readLetters_48 : decode cX8_readLetters 48 = .ok (.checkcast 65, 3) := by decide +kernel
theorem dX8_readLetters_51 : decode cX8_readLetters 51 = .ok (.getfield 142, 3) := by decide +kernel
theorem dX8_readLetters_54 : decode cX8_readLetters 54 = .ok (.astore 4, 2) := by decide +kernel
theorem dX8_readLetters_56 : decode cX8_readLetters 56 = .ok (.aload 4, 2) := by decide +kernel
theorem dX8_readLetters_58 : decode cX8_readLetters 58 = .ok (.invokevirtual 338, 3) := by decide +kernel
theorem dX8_readLetters_61 : decode cX8_readLetters 61 = .ok (.aload_n 0, 1) := by decide +kernel
theorem dX8_readLetters_62 : decode cX8_readLetters 62 = .ok (.dup, 1) := by decide +kernel
theorem dX8_readLetters_63 : decode cX8_readLetters 63 = .ok (.getfield 195, 3) := by decide +kernel
theorem dX8_readLetters_66 : decode cX8_readLetters 66 = .ok (.iconst 1, 1) := by decide +kernel
theorem dX8_readLetters_67 : decode cX8_readLetters 67 = .ok (.iadd, 1) := by decide +kernel
theorem dX8_readLetters_68 : decode cX8_readLetters 68 = .ok (.putfield 195, 3) := by decide +kernel
theorem dX8_readLetters_71 : decode cX8_readLetters 71 = .ok (.aload 4, 2) := by decide +kernel
theorem dX8_readLetters_73 : decode cX8_readLetters 73 = .ok (.getfield 182, 3) := by decide +kernel
theorem dX8_readLetters_76 : decode cX8_readLetters 76 = .ok (.ifCond .ne 20, 3) := by decide +kernel
theorem dX8_readLetters_79 : decode cX8_readLetters 79 = .ok (.aload_n 0, 1) := by decide +kernel
theorem dX8_readLetters_80 : decode cX8_readLetters 80 = .ok (.dup, 1) := by decide +kernel
theorem dX8_readLetters_81 : decode cX8_readLetters 81 = .ok (.getfield 158, 3) := by decide +kernel
theorem dX8_readLetters_84 : decode cX8_readLetters 84 = .ok (.iload_n 3, 1) := by decide +kernel
theorem dX8_readLetters_85 : decode cX8_readLetters 85 = .ok (.invokestatic 78, 3) := by decide +kernel
theorem dX8_readLetters_88 : decode cX8_readLetters 88 = .ok (.ldc2_w 238, 3) := by decide +kernel
theorem dX8_readLetters_91 : decode cX8_readLetters 91 = .ok (.lxor, 1) := by decide +kernel
theorem dX8_readLetters_92 : decode cX8_readLetters 92 = .ok (.land, 1) := by decide +kernel
theorem dX8_readLetters_93 : decode cX8_readLetters 93 = .ok (.putfield 158, 3) := by decide +kernel
theorem dX8_readLetters_96 : decode cX8_readLetters 96 = .ok (.iinc 3 1, 3) := by decide +kernel
theorem dX8_readLetters_99 : decode cX8_readLetters 99 = .ok (.goto (-78), 3) := by decide +kernel
theorem dX8_readLetters_102 : decode cX8_readLetters 102 = .ok (.return_, 1) := by decide +kernel
def wq_x_stopTheLacking : List Cond := [.code yX8_stopTheLacking cX8_stopTheLacking 3 none, .fieldLink RX8 49 "ServiceTree" "history" "LServiceTree$History;", .fieldLink RX8 335 "ServiceTree" "settledChanges" "I", .fieldLink RX8 10 "ServiceTree" "services" "Ljava/util/ArrayList;", .classLink RX8 65 RX7, .methodLink RX8 221 yX8_leastLacking, .instanceMethod yX8_leastLacking, .selects RX8 yX8_leastLacking yX8_leastLacking, .initialized RX8, .methodLink RX8 82 yX8_exists, .instanceMethod yX8_exists, .selects RX8 yX8_exists yX8_exists, .methodLink RX8 86 yJx4a65c_get_915e3, .instanceMethod yJx4a65c_get_915e3, .selects RJx4a65c yJx4a65c_get_915e3 yJx4a65c_get_915e3, .initialized RJx4a65c, .methodLink RX8 308 yX7_firstStateOfStop, .instanceMethod yX7_firstStateOfStop, .selects RX7 yX7_firstStateOfStop yX7_firstStateOfStop, .initialized RX7, .methodLink RX8 249 yX8_enter, .instanceMethod yX8_enter, .selects RX8 yX8_enter yX8_enter] ++ (wsX20 ++ (wsX80 ++ (wq_x_leastLacking ++ (wq_x_exists ++ (wq_x_get ++ (wq_x_fsp ++ (wq_x_enter)))))))
theorem in_x_stopTheLacking_X2 : ∀ w ∈ wsX20, w ∈ wq_x_stopTheLacking := fun _ h => List.mem_append_right _ (List.mem_append_left _ (h))
theorem in_x_stopTheLacking_X8 : ∀ w ∈ wsX80, w ∈ wq_x_stopTheLacking := fun _ h => List.mem_append_right _ (List.mem_append_right _ (List.mem_append_left _ (h)))
set_option maxRecDepth 20000 in
theorem wi_x_stopTheLacking : ∀ w ∈ wq_x_stopTheLacking, w ∈ lw_tbl := List.forall_mem_append.mpr ⟨(by decide +kernel), List.forall_mem_append.mpr ⟨inKX2, List.forall_mem_append.mpr ⟨inKX8, List.forall_mem_append.mpr ⟨wi_x_leastLacking, List.forall_mem_append.mpr ⟨wi_x_exists, List.forall_mem_append.mpr ⟨wi_x_get, List.forall_mem_append.mpr ⟨wi_x_fsp, wi_x_enter⟩⟩⟩⟩⟩⟩⟩
set_option maxRecDepth 20000 in
theorem wg_x_stopTheLacking : GoodIn wq_x_stopTheLacking wq_x_stopTheLacking := goodIn_sub (fun _ h => h) (by decide +kernel)
set_option maxRecDepth 20000 in
theorem wc_x_stopTheLacking_x_leastLacking_221 : GoodIn wq_x_stopTheLacking (wsV RX8 221 RX8 yX8_leastLacking wq_x_leastLacking) := goodIn_app (goodIn_of _ (by decide +kernel)) (fun w h => ⟨List.mem_append_right _ (List.mem_append_right _ (List.mem_append_right _ (List.mem_append_left _ (h)))), (wg_x_leastLacking w h).2⟩)
set_option maxRecDepth 20000 in
theorem wc_x_stopTheLacking_x_exists_82 : GoodIn wq_x_stopTheLacking (wsV RX8 82 RX8 yX8_exists wq_x_exists) := goodIn_app (goodIn_of _ (by decide +kernel)) (fun w h => ⟨List.mem_append_right _ (List.mem_append_right _ (List.mem_append_right _ (List.mem_append_right _ (List.mem_append_left _ (h))))), (wg_x_exists w h).2⟩)
set_option maxRecDepth 20000 in
theorem wc_x_stopTheLacking_x_get_86 : GoodIn wq_x_stopTheLacking (wsV RX8 86 RJx4a65c yJx4a65c_get_915e3 wq_x_get) := goodIn_app (goodIn_of _ (by decide +kernel)) (fun w h => ⟨List.mem_append_right _ (List.mem_append_right _ (List.mem_append_right _ (List.mem_append_right _ (List.mem_append_right _ (List.mem_append_left _ (h)))))), (wg_x_get w h).2⟩)
set_option maxRecDepth 20000 in
theorem wc_x_stopTheLacking_x_fsp_308 : GoodIn wq_x_stopTheLacking (wsV RX8 308 RX7 yX7_firstStateOfStop wq_x_fsp) := goodIn_app (goodIn_of _ (by decide +kernel)) (fun w h => ⟨List.mem_append_right _ (List.mem_append_right _ (List.mem_append_right _ (List.mem_append_right _ (List.mem_append_right _ (List.mem_append_right _ (List.mem_append_left _ (h))))))), (wg_x_fsp w h).2⟩)
set_option maxRecDepth 20000 in
theorem wc_x_stopTheLacking_x_enter_249 : GoodIn wq_x_stopTheLacking (wsV RX8 249 RX8 yX8_enter wq_x_enter) := goodIn_app (goodIn_of _ (by decide +kernel)) (fun w h => ⟨List.mem_append_right _ (List.mem_append_right _ (List.mem_append_right _ (List.mem_append_right _ (List.mem_append_right _ (List.mem_append_right _ (List.mem_append_right _ (h))))))), (wg_x_enter w h).2⟩)
def rm_x_stopTheLacking : Room := { frames := 4, cells := 0, slots := 0, locals := 89 }
set_option maxHeartbeats 4000000 in
set_option maxRecDepth 100000 in
theorem c_x_stopTheLacking (l : Launch) (dC : Nat → ClassId) (dI : Nat → Nat → Nat) (h : Nat) (a : Nat → Nat) (e : Nat) (cI cJ cO cE : ClassId) (L : Nat → Int64) (I : Nat → Int32) (M : Nat → Nat → Int64) (J : Nat → Nat → Int32) (n cap : Nat) (fE : Nat → Option Nat) (sd : Nat → Nat → Nat) (si : Nat → Nat → Int32) (sa : Nat → Nat → Nat → Int32) (dl : Nat → Nat) (b : Nat)  (sz : Nat) (hX0 : InvX n cap fE sd dl b I J si) (hb0 : b + 40 < 2147483648)  : Met l yX8_stopTheLacking wq_x_stopTheLacking rm_x_stopTheLacking (va_Pc [.ref h] (fun U => U.heap.size = sz ∧ va_P (dC, dI) vwCl (xW h a e cI cJ cO cE L I M J n cap fE sd si sa dl) U.heap ∧ va_K (dC, dI) vwCl (xT cI cJ cO cE) U ∧ va_D (fun _ => True) (xW h a e cI cJ cO cE L I M J n cap fE sd si sa dl) ∧ pw_N U)) (va_Qv (fun (u : (Nat → Int64) × (Nat → Int32) × (Nat → Nat → Int64) × (Nat → Nat → Int32) × (Nat → Nat → Nat → Int32)) => InvX n cap fE sd dl (b + 40) u.2.1 J u.2.2.2.1 ∧ (∀ j9 : Nat, j9 ∉ ([0, 5, 6, 7] : List Nat) → u.1 j9 = L j9) ∧ (∀ j9 : Nat, j9 ∉ ([4, 12] : List Nat) → u.2.1 j9 = I j9) ∧ (∀ j9 : Nat, j9 ∉ ([8, 9] : List Nat) → u.2.2.1 j9 = M j9) ∧ (∀ s9 q9 : Nat, q9 ∉ ([6, 7, 8, 9, 10, 11, 21, 22] : List Nat) → u.2.2.2.1 s9 q9 = si s9 q9) ∧ (∀ s9 q9 : Nat, q9 ∉ ([3] : List Nat) → u.2.2.2.2 s9 q9 = sa s9 q9) ∧ (True)) (fun (u : (Nat → Int64) × (Nat → Int32) × (Nat → Nat → Int64) × (Nat → Nat → Int32) × (Nat → Nat → Nat → Int32)) (t : State) => va_P (dC, dI) vwCl (xW h a e cI cJ cO cE u.1 u.2.1 u.2.2.1 J n cap fE sd u.2.2.2.1 u.2.2.2.2 dl) t.heap ∧ va_D (va_A (xW h a e cI cJ cO cE L I M J n cap fE sd si sa dl) sz) (xW h a e cI cJ cO cE u.1 u.2.1 u.2.2.1 J n cap fE sd u.2.2.2.1 u.2.2.2.2 dl)) (va_A (xW h a e cI cJ cO cE L I M J n cap fE sd si sa dl) sz)) 0 0 (va_A (xW h a e cI cJ cO cE L I M J n cap fE sd si sa dl) sz) := by
  have hn : n ≤ 40 := hX0.1.1
  have hX := hX0
  have hUL : ∀ j9 : Nat, j9 ∉ ([0, 5, 6, 7] : List Nat) → L j9 = L j9 := fun _ _ => rfl
  have hUI : ∀ j9 : Nat, j9 ∉ ([4, 12] : List Nat) → I j9 = I j9 := fun _ _ => rfl
  have hUM : ∀ j9 : Nat, j9 ∉ ([8, 9] : List Nat) → M j9 = M j9 := fun _ _ => rfl
  have hUsi : ∀ s9 q9 : Nat, q9 ∉ ([6, 7, 8, 9, 10, 11, 21, 22] : List Nat) → si s9 q9 = si s9 q9 := fun _ _ _ => rfl
  have hUsa : ∀ s9 q9 : Nat, q9 ∉ ([3] : List Nat) → sa s9 q9 = sa s9 q9 := fun _ _ _ => rfl
  refine Met.ofW (cc := cX8_stopTheLacking) (maxL := 3) (ret := none) (by decide) rfl ?_
  intro p e9 s m args below meth c s₁ B hml hv
  obtain ⟨rfl, hsz, hP, hK, hD0, hN⟩ := hv
  have hx := B.exec
  have hb := B.bytes
  have hr := B.returns
  have hts := atoms_spec (ws := wq_x_stopTheLacking) B.pre
  have hown : s.vm.findClass RX8 = some m.cls := findClass_of_methodNamed B.named
  have hlocks := B.notSynchronized
  subst hsz
  have hD := hD0.self (sz := s.heap.size)
  generalize hAe : va_A (xW h a e cI cJ cO cE L I M J n cap fE sd si sa dl) s.heap.size = A at hD ⊢
  have hA : ∀ q : Nat, s.heap.size ≤ q → A q := fun q h => by rw [← hAe]; exact Or.inr h
  have hS : va_S A s.heap s.heap [] := va_S.rf
  have hl := lv_entry ([.ref h]) (n := 3) (Nat.le_of_ble_eq_true rfl)
  rw [lg_entry_eq]
  generalize (lg_sl ([.ref h]) ++ List.replicate (3 - (lg_sl ([.ref h])).length) Slot.unset).toArray = ls at hl ⊢
  have hl : lv_has ls 3 [(0, .ref h)] := hl
  refine mw_Q (fun Q0 hQ => ?_)
  refine lv_aload_n hx hb dX8_stopTheLacking_0 rfl (lv_at hl 0 rfl) ?_
  refine va_get (D := (dC, dI)) (ci := 9) (v := .ref (a 5)) (C := RX8) (T := TX8) (N := 14) hx hb hts in_x_stopTheLacking_X8 hown hK hP 0 rfl rfl 5 (by decide) (hts (.fieldLink RX8 49 "ServiceTree" "history" "LServiceTree$History;") (by decide +kernel)) (fun _ h9 => h9) rfl dX8_stopTheLacking_1 ?_
  refine va_getN (D := (dC, dI)) (ci := 3) (v := .int (I 12)) (C := RX2) (T := TX2) (N := 2) hx hb hts in_x_stopTheLacking_X2 hown hK hP 19 rfl rfl 1 (by decide) (va_Nw.use rfl (hN (.fieldLinkNest RX8 219 "ServiceTree$History" "size" "I" "ServiceTree") (by decide +kernel))) (fun _ h9 => h9) rfl dX8_stopTheLacking_4 ?_
  obtain ⟨z1, hz1, ez1⟩ := hX.2.1.2
  refine p1_topr (v := .int (nI z1)) (congrArg Value.int ez1) ?_
  refine lv_aload_n hx hb dX8_stopTheLacking_7 rfl (lv_at hl 0 rfl) ?_
  refine va_get (D := (dC, dI)) (ci := 9) (v := .int (I 4)) (C := RX8) (T := TX8) (N := 14) hx hb hts in_x_stopTheLacking_X8 hown hK hP 0 rfl rfl 13 (by decide) (hts (.fieldLink RX8 335 "ServiceTree" "settledChanges" "I") (by decide +kernel)) (fun _ h9 => h9) rfl dX8_stopTheLacking_8 ?_
  refine lv_topi (fun x2 ex2 => ?_)
  refine lv_icmp_ne (tgt := 15) hx hb dX8_stopTheLacking_11 (by decide) (fun c3 => ?_) (fun c3 => ?_)
  · refine lv_iconst (v := 0) hx hb dX8_stopTheLacking_15 (by decide) ?_
    refine lv_istore_n (lv' := [(1, .int 0), (0, .ref h)]) hx hb dX8_stopTheLacking_16 rfl hl (by decide) rfl (fun ls hl => ?_)
    have lp7 : ∀ (fu5 i4 : Nat)  (L8 : Nat → Int64) (I9 : Nat → Int32) (M10 : Nat → Nat → Int64) (si11 : Nat → Nat → Int32) (sa12 : Nat → Nat → Nat → Int32) (H : Heap) (locs : List Loc) (ls : Array Slot), 40 < i4 + fu5 → i4 ≤ 40 → InvX n cap fE sd dl (b + 1 * i4) I9 J si11 → (∀ j9 : Nat, j9 ∉ ([0, 5, 6, 7] : List Nat) → L8 j9 = L j9) → (∀ j9 : Nat, j9 ∉ ([4, 12] : List Nat) → I9 j9 = I j9) → (∀ j9 : Nat, j9 ∉ ([8, 9] : List Nat) → M10 j9 = M j9) → (∀ s9 q9 : Nat, q9 ∉ ([6, 7, 8, 9, 10, 11, 21, 22] : List Nat) → si11 s9 q9 = si s9 q9) → (∀ s9 q9 : Nat, q9 ∉ ([3] : List Nat) → sa12 s9 q9 = sa s9 q9) → va_P (dC, dI) vwCl (xW h a e cI cJ cO cE L8 I9 M10 J n cap fE sd si11 sa12 dl) H → va_D A (xW h a e cI cJ cO cE L8 I9 M10 J n cap fE sd si11 sa12 dl) → va_S A s.heap H locs → lv_has ls 3 [(1, .int (nI i4)), (0, .ref h)] → W p l e9 (headSpec wq_x_stopTheLacking rm_x_stopTheLacking).room s m ([.ref h] : List Value).toArray below meth c H locs 0 0 Q0 (F0 m 17 ls []) := by
      intro fu5
      induction fu5 with
      | zero =>
        intro i4  L8 I9 M10 si11 sa12 H locs ls hf hi
        exact absurd hf (by omega)
      | succ fu5 ih6 =>
        intro i4  L8 I9 M10 si11 sa12 H locs ls hfi4 hii4 hX hUL hUI hUM hUsi hUsa hP hD hS hl
        refine lv_iload_n hx hb dX8_stopTheLacking_17 rfl (lv_at hl 0 rfl) ?_
        refine lv_bipush (v := 40) hx hb dX8_stopTheLacking_18 (by decide) ?_
        refine lv_icmp_ge (tgt := 64) hx hb dX8_stopTheLacking_20 (by decide) (fun c13 => ?_) (fun c13 => ?_)
        · replace c13 : 40 ≤ i4 := (nI_leI (a := 40) (b := i4) (by omega) (by omega)).mp c13
          refine lv_aload_n hx hb dX8_stopTheLacking_64 rfl (lv_at hl 1 rfl) ?_
          refine lv_aload_n hx hb dX8_stopTheLacking_65 rfl (lv_at hl 1 rfl) ?_
          refine va_get (D := (dC, dI)) (ci := 9) (v := .ref (a 5)) (C := RX8) (T := TX8) (N := 14) hx hb hts in_x_stopTheLacking_X8 hown hK hP 0 rfl rfl 5 (by decide) (hts (.fieldLink RX8 49 "ServiceTree" "history" "LServiceTree$History;") (by decide +kernel)) (fun _ h9 => h9) rfl dX8_stopTheLacking_66 ?_
          refine va_getN (D := (dC, dI)) (ci := 3) (v := .int (I9 12)) (C := RX2) (T := TX2) (N := 2) hx hb hts in_x_stopTheLacking_X2 hown hK hP 19 rfl rfl 1 (by decide) (va_Nw.use rfl (hN (.fieldLinkNest RX8 219 "ServiceTree$History" "size" "I" "ServiceTree") (by decide +kernel))) (fun _ h9 => h9) rfl dX8_stopTheLacking_69 ?_
          obtain ⟨z14, hz14, ez14⟩ := hX.2.1.2
          refine p1_topr (v := .int (nI z14)) (congrArg Value.int ez14) ?_
          refine va_put (D := (dC, dI)) (ci := 9) (fs := [.ref (a 0), .ref (a 1), .ref (a 2), .ref (a 3), .ref (a 4), .ref (a 5), .ref (a 6), .long (L8 0), .long (L8 1), .int (I9 0), .int (I9 1), .int (I9 2), .int (I9 3), .int (I9 4)]) (v := .int (nI z14)) (ty := .int) (C := RX8) (T := TX8) (N := 14) hx hb hts in_x_stopTheLacking_X8 tyX8 tyX8_ok nmX8 hown hK hP hD hS 0 rfl rfl 13 (by decide) (hts (.fieldLink RX8 335 "ServiceTree" "settledChanges" "I") (by decide +kernel)) (fun _ h9 => h9) rfl (by decide +kernel) rfl rfl (Nat.le_of_ble_eq_true rfl) dX8_stopTheLacking_72 (fun H locs hP hD hS => ?_)
          replace hP : va_P (dC, dI) vwCl ((xW h a e cI cJ cO cE L8 I9 M10 J n cap fE sd si11 sa12 dl).set 0 (h, .inr (9, [.ref (a 0), .ref (a 1), .ref (a 2), .ref (a 3), .ref (a 4), .ref (a 5), .ref (a 6), .long (L8 0), .long (L8 1), .int (I9 0), .int (I9 1), .int (I9 2), .int (I9 3), .int (nI z14)]))) H := hP
          replace hD : va_D A ((xW h a e cI cJ cO cE L8 I9 M10 J n cap fE sd si11 sa12 dl).set 0 (h, .inr (9, [.ref (a 0), .ref (a 1), .ref (a 2), .ref (a 3), .ref (a 4), .ref (a 5), .ref (a 6), .long (L8 0), .long (L8 1), .int (I9 0), .int (I9 1), .int (I9 2), .int (I9 3), .int (nI z14)]))) := hD
          rw [xF_I4] at hP hD
          obtain ⟨I15, eI15⟩ : ∃ f9 : Nat → Int32, f9 = va_up I9 4 (nI z14) := ⟨_, rfl⟩
          rw [← eI15] at hP hD
          replace hX : InvX n cap fE sd dl (b + 1 * i4) I15 J si11 := by rw [eI15]; exact hX.setI (by decide)
          replace hUI : ∀ j9 : Nat, j9 ∉ ([4, 12] : List Nat) → I15 j9 = I j9 := by rw [eI15]; exact mw_up (by decide) hUI
          rw [hQ]
          exact W.vret hx hb hr (fun t ht hW => ⟨⟨(L8, I15, M10, si11, sa12), rfl, ⟨hX.mono (by omega), hUL, hUI, hUM, hUsi, hUsa, trivial⟩, by rw [ht]; exact hP, hD⟩, hS.F ht⟩) hS.2.2 dX8_stopTheLacking_75
        · replace c13 : ¬ (40 ≤ i4) := fun q9 => c13 ((nI_leI (a := 40) (b := i4) (by omega) (by omega)).mpr q9)
          refine lv_aload_n hx hb dX8_stopTheLacking_23 rfl (lv_at hl 1 rfl) ?_
          have hFc := mw_free hD hS hA
          refine va_calli (va_runV (As := []) (rest := []) ⟨hx, hb, hml, hown, hts⟩ (c_x_leastLacking l dC dI h a e cI cJ cO cE L8 I9 M10 J n cap fE sd si11 sa12 dl (b + 1 * i4)  H.size hX (by omega) ) (cwV 0 hts wc_x_stopTheLacking_x_leastLacking_221 rfl rfl rfl (by decide +kernel) ⟨Nat.le_of_ble_eq_true rfl, Nat.le_of_ble_eq_true rfl⟩) ⟨fun a9 U g mk q => by obtain ⟨q0, q1, qP, qK, qD, qN⟩ := q; exact ⟨q0, q1, qP, va_K.moved (u := U) (U := U.calling g mk a9) (Vm.Alike.refl U.vm) qK, qD, pw_N.same (u := U) (U := U.calling g mk a9) rfl qN⟩, va_recv hK hP (ci := 9) (q0 := 0) rfl rfl, fun U hU hW => ⟨rfl, by rw [hU], by rw [hU]; exact hP, va_K.moved hW.alike hK, hD.weaken (fun _ _ _ _ => trivial), pw_N.warm hW hN⟩⟩ rfl rfl hl.1 rfl (lv_room (Nat.le_of_ble_eq_true rfl)) dX8_stopTheLacking_24 ⟨Nat.le_of_ble_eq_true rfl, Nat.le_of_ble_eq_true rfl⟩) hS (fun q _ h => hFc q h) hFc (fun r16 u t H1 locs ht hvm hw hB hz1 hk1 hS => ?_)
          replace hP := hB.1
          rw [ht] at hP
          replace hD : va_D A (xW h a e cI cJ cO cE L8 I9 M10 J n cap fE sd si11 sa12 dl) := hB.2.weaken (fun _ q _ h9 => hFc q.1 h9)
          clear hB
          generalize H1 = H at hP hS ⊢
          replace hP : va_P (dC, dI) vwCl (xW h a e cI cJ cO cE L8 I9 M10 J n cap fE sd si11 sa12 dl) H := hP
          refine lv_istore_n (lv' := [(2, .int r16), (1, .int (nI i4)), (0, .ref h)]) hx hb dX8_stopTheLacking_27 rfl hl (by decide) rfl (fun ls hl => ?_)
          refine lv_aload_n hx hb dX8_stopTheLacking_28 rfl (lv_at hl 2 rfl) ?_
          refine lv_iload_n hx hb dX8_stopTheLacking_29 rfl (lv_at hl 0 rfl) ?_
          have hFc := mw_free hD hS hA
          refine va_calli (va_runV (As := [.int r16]) (rest := []) ⟨hx, hb, hml, hown, hts⟩ (c_x_exists l dC dI h a e cI cJ cO cE L8 I9 M10 J n cap fE sd si11 sa12 dl (b + 1 * i4) r16 H.size hX (by omega) ) (cwV 1 hts wc_x_stopTheLacking_x_exists_82 rfl rfl rfl (by decide +kernel) ⟨Nat.le_of_ble_eq_true rfl, Nat.le_of_ble_eq_true rfl⟩) ⟨fun a9 U g mk q => by obtain ⟨q0, q1, qP, qK, qD, qN⟩ := q; exact ⟨q0, q1, qP, va_K.moved (u := U) (U := U.calling g mk a9) (Vm.Alike.refl U.vm) qK, qD, pw_N.same (u := U) (U := U.calling g mk a9) rfl qN⟩, va_recv hK hP (ci := 9) (q0 := 0) rfl rfl, fun U hU hW => ⟨rfl, by rw [hU], by rw [hU]; exact hP, va_K.moved hW.alike hK, hD.weaken (fun _ _ _ _ => trivial), pw_N.warm hW hN⟩⟩ rfl rfl hl.1 rfl (lv_room (Nat.le_of_ble_eq_true rfl)) dX8_stopTheLacking_30 ⟨Nat.le_of_ble_eq_true rfl, Nat.le_of_ble_eq_true rfl⟩) hS (fun q _ h => hFc q h) hFc (fun r17 u t H1 locs ht hvm hw hB hz1 hk1 hS => ?_)
          replace hP := hB.1
          rw [ht] at hP
          replace hD : va_D A (xW h a e cI cJ cO cE L8 I9 M10 J n cap fE sd si11 sa12 dl) := hB.2.weaken (fun _ q _ h9 => hFc q.1 h9)
          clear hB
          generalize H1 = H at hP hS ⊢
          replace hP : va_P (dC, dI) vwCl (xW h a e cI cJ cO cE L8 I9 M10 J n cap fE sd si11 sa12 dl) H := hP
          rcases hw with ⟨rfl, j18, hj18, ej18⟩ | ⟨rfl, noj18⟩
          · subst ej18
            refine lv_if_ne (tgt := 39) hx hb dX8_stopTheLacking_33 (by decide) (fun _ => ?_) (fun c9 => absurd c9 (by decide))
            refine lv_aload_n hx hb dX8_stopTheLacking_39 rfl (lv_at hl 2 rfl) ?_
            refine lv_iload_n hx hb dX8_stopTheLacking_40 rfl (lv_at hl 0 rfl) ?_
            refine lv_aload_n hx hb dX8_stopTheLacking_41 rfl (lv_at hl 2 rfl) ?_
            refine va_get (D := (dC, dI)) (ci := 9) (v := .ref (a 0)) (C := RX8) (T := TX8) (N := 14) hx hb hts in_x_stopTheLacking_X8 hown hK hP 0 rfl rfl 0 (by decide) (hts (.fieldLink RX8 10 "ServiceTree" "services" "Ljava/util/ArrayList;") (by decide +kernel)) (fun _ h9 => h9) rfl dX8_stopTheLacking_42 ?_
            refine lv_iload_n hx hb dX8_stopTheLacking_45 rfl (lv_at hl 0 rfl) ?_
            have hFc := mw_free hD hS hA
            refine va_callr (va_runV (As := [.int (nI j18)]) (rest := [.int (nI j18), .ref h]) ⟨hx, hb, hml, hown, hts⟩ (c_x_get l dC dI h a e cI cJ cO cE L8 I9 M10 J n cap fE sd si11 sa12 dl (b + 1 * i4) j18 H.size hX (by omega) (by omega)) (cwV 1 hts wc_x_stopTheLacking_x_get_86 rfl rfl rfl (by decide +kernel) ⟨Nat.le_of_ble_eq_true rfl, Nat.le_of_ble_eq_true rfl⟩) ⟨fun a9 U g mk q => by obtain ⟨q0, q1, qP, qK, qD, qN⟩ := q; exact ⟨q0, q1, qP, va_K.moved (u := U) (U := U.calling g mk a9) (Vm.Alike.refl U.vm) qK, qD, pw_N.same (u := U) (U := U.calling g mk a9) rfl qN⟩, va_recv hK hP (ci := 0) (q0 := 1) rfl rfl, fun U hU hW => ⟨rfl, by rw [hU], by rw [hU]; exact hP, va_K.moved hW.alike hK, hD.weaken (fun _ _ _ _ => trivial), pw_N.warm hW hN⟩⟩ rfl rfl hl.1 rfl (lv_room (Nat.le_of_ble_eq_true rfl)) dX8_stopTheLacking_46 ⟨Nat.le_of_ble_eq_true rfl, Nat.le_of_ble_eq_true rfl⟩) hS (fun q _ h => hFc q h) hFc (fun u r19 t H1 locs ht hvm hw hB hz1 hk1 hS => ?_)
            obtain ⟨hra, hB⟩ := hB
            replace hP := hB.1
            rw [ht] at hP
            replace hD : va_D A (xW h a e cI cJ cO cE L8 I9 M10 J n cap fE sd si11 sa12 dl) := hB.2.weaken (fun _ q _ h9 => hFc q.1 h9)
            clear hB
            generalize H1 = H at hP hS ⊢
            replace hP : va_P (dC, dI) vwCl (xW h a e cI cJ cO cE L8 I9 M10 J n cap fE sd si11 sa12 dl) H := hP
            subst hra
            refine va_castS hx hb hown (hts (.classLink RX8 65 RX7) (by decide +kernel)) (hK.1 8 _ rfl).2 (va_recv hK hP (ci := 8) (q0 := (22 + (6 * j18 + 0))) rfl (xAt_0 h a e cI cJ cO cE L8 I9 M10 J n cap fE sd si11 sa12 dl (s := j18) (by omega))) dX8_stopTheLacking_49 ?_
            have hFc := mw_free hD hS hA
            refine va_calli (va_runV (As := []) (rest := [.int (nI j18), .ref h]) ⟨hx, hb, hml, hown, hts⟩ (c_x_fsp l dC dI h a e cI cJ cO cE L8 I9 M10 J n cap fE sd si11 sa12 dl (b + 1 * i4) j18 H.size hX (by omega) (by omega)) (cwV 0 hts wc_x_stopTheLacking_x_fsp_308 rfl rfl rfl (by decide +kernel) ⟨Nat.le_of_ble_eq_true rfl, Nat.le_of_ble_eq_true rfl⟩) ⟨fun a9 U g mk q => by obtain ⟨q0, q1, qP, qK, qD, qN⟩ := q; exact ⟨q0, q1, qP, va_K.moved (u := U) (U := U.calling g mk a9) (Vm.Alike.refl U.vm) qK, qD, pw_N.same (u := U) (U := U.calling g mk a9) rfl qN⟩, va_recv hK hP (ci := 8) (q0 := (22 + (6 * j18 + 0))) rfl (xAt_0 h a e cI cJ cO cE L8 I9 M10 J n cap fE sd si11 sa12 dl (s := j18) (by omega)), fun U hU hW => ⟨rfl, by rw [hU], by rw [hU]; exact hP, va_K.moved hW.alike hK, hD.weaken (fun _ _ _ _ => trivial), pw_N.warm hW hN⟩⟩ rfl rfl hl.1 rfl (lv_room (Nat.le_of_ble_eq_true rfl)) dX8_stopTheLacking_52 ⟨Nat.le_of_ble_eq_true rfl, Nat.le_of_ble_eq_true rfl⟩) hS (fun q _ h => hFc q h) hFc (fun r20 u t H1 locs ht hvm hw hB hz1 hk1 hS => ?_)
            replace hP := hB.1
            rw [ht] at hP
            replace hD : va_D A (xW h a e cI cJ cO cE L8 I9 M10 J n cap fE sd si11 sa12 dl) := hB.2.weaken (fun _ q _ h9 => hFc q.1 h9)
            clear hB
            generalize H1 = H at hP hS ⊢
            replace hP : va_P (dC, dI) vwCl (xW h a e cI cJ cO cE L8 I9 M10 J n cap fE sd si11 sa12 dl) H := hP
            obtain ⟨j21, hj21, rfl⟩ := hw
            have hFc := mw_free hD hS hA
            refine va_callv (va_runV (As := [.int (nI j18), .int (nI j21)]) (rest := []) ⟨hx, hb, hml, hown, hts⟩ (c_x_enter l dC dI h a e cI cJ cO cE L8 I9 M10 J n cap fE sd si11 sa12 dl (b + 1 * i4) j18 j21 H.size hX (by omega) (by omega) (by omega)) (cwV 2 hts wc_x_stopTheLacking_x_enter_249 rfl rfl rfl (by decide +kernel) ⟨Nat.le_of_ble_eq_true rfl, Nat.le_of_ble_eq_true rfl⟩) ⟨fun a9 U g mk q => by obtain ⟨q0, q1, qP, qK, qD, qN⟩ := q; exact ⟨q0, q1, qP, va_K.moved (u := U) (U := U.calling g mk a9) (Vm.Alike.refl U.vm) qK, qD, pw_N.same (u := U) (U := U.calling g mk a9) rfl qN⟩, va_recv hK hP (ci := 9) (q0 := 0) rfl rfl, fun U hU hW => ⟨rfl, by rw [hU], by rw [hU]; exact hP, va_K.moved hW.alike hK, hD.weaken (fun _ _ _ _ => trivial), pw_N.warm hW hN⟩⟩ rfl rfl hl.1 rfl (lv_room (Nat.le_of_ble_eq_true rfl)) dX8_stopTheLacking_55 ⟨Nat.le_of_ble_eq_true rfl, Nat.le_of_ble_eq_true rfl⟩) hS (fun q _ h => hFc q h) hFc (fun u t H1 locs ht hvm hw hB hz1 hk1 hS => ?_)
            obtain ⟨L23, I24, M25, si26, sa27⟩ := u
            replace hP := hB.1
            rw [ht] at hP
            replace hD : va_D A (xW h a e cI cJ cO cE L23 I24 M25 J n cap fE sd si26 sa27 dl) := hB.2.weaken (fun _ q _ h9 => hFc q.1 h9)
            clear hB
            generalize H1 = H at hP hS ⊢
            replace hP : va_P (dC, dI) vwCl (xW h a e cI cJ cO cE L23 I24 M25 J n cap fE sd si26 sa27 dl) H := hP
            obtain ⟨hwX, whUL, whUI, whUM, whUsi, whUsa, hw⟩ := hw
            replace hX : InvX n cap fE sd dl (b + 1 * i4 + 1) I24 J si26 := hwX
            replace hUL : ∀ j9 : Nat, j9 ∉ ([0, 5, 6, 7] : List Nat) → L23 j9 = L j9 := mw_tr (by decide) whUL hUL
            replace hUI : ∀ j9 : Nat, j9 ∉ ([4, 12] : List Nat) → I24 j9 = I j9 := mw_tr (by decide) whUI hUI
            replace hUM : ∀ j9 : Nat, j9 ∉ ([8, 9] : List Nat) → M25 j9 = M j9 := mw_tr (by decide) whUM hUM
            replace hUsi : ∀ s9 q9 : Nat, q9 ∉ ([6, 7, 8, 9, 10, 11, 21, 22] : List Nat) → si26 s9 q9 = si s9 q9 := xw_tr2 (by decide) whUsi hUsi
            replace hUsa : ∀ s9 q9 : Nat, q9 ∉ ([3] : List Nat) → sa27 s9 q9 = sa s9 q9 := xw_tr2 (by decide) whUsa hUsa
            refine lv_iinc (v := (nI (i4 + 1))) (lv' := [(1, .int (nI (i4 + 1))), (2, .int (nI j18)), (0, .ref h)]) hx hb dX8_stopTheLacking_58 hl (k := 1) rfl (nI_add i4 1) (by decide) rfl (fun ls hl => ?_)
            refine lv_goto (tgt := 17) hx hb dX8_stopTheLacking_61 (by decide) ?_
            exact ih6 (i4 + 1)  L23 I24 M25 si26 sa27 _ _ _ (by omega) (by omega) (hX.mono (by omega)) hUL hUI hUM hUsi hUsa  hP hD hS (lv_sub hl [0, 2] rfl)
          · refine lv_if_ne (tgt := 39) hx hb dX8_stopTheLacking_33 (by decide) (fun c9 => absurd (by decide) c9) (fun _ => ?_)
            refine lv_goto (tgt := 64) hx hb dX8_stopTheLacking_36 (by decide) ?_
            refine lv_aload_n hx hb dX8_stopTheLacking_64 rfl (lv_at hl 2 rfl) ?_
            refine lv_aload_n hx hb dX8_stopTheLacking_65 rfl (lv_at hl 2 rfl) ?_
            refine va_get (D := (dC, dI)) (ci := 9) (v := .ref (a 5)) (C := RX8) (T := TX8) (N := 14) hx hb hts in_x_stopTheLacking_X8 hown hK hP 0 rfl rfl 5 (by decide) (hts (.fieldLink RX8 49 "ServiceTree" "history" "LServiceTree$History;") (by decide +kernel)) (fun _ h9 => h9) rfl dX8_stopTheLacking_66 ?_
            refine va_getN (D := (dC, dI)) (ci := 3) (v := .int (I9 12)) (C := RX2) (T := TX2) (N := 2) hx hb hts in_x_stopTheLacking_X2 hown hK hP 19 rfl rfl 1 (by decide) (va_Nw.use rfl (hN (.fieldLinkNest RX8 219 "ServiceTree$History" "size" "I" "ServiceTree") (by decide +kernel))) (fun _ h9 => h9) rfl dX8_stopTheLacking_69 ?_
            obtain ⟨z28, hz28, ez28⟩ := hX.2.1.2
            refine p1_topr (v := .int (nI z28)) (congrArg Value.int ez28) ?_
            refine va_put (D := (dC, dI)) (ci := 9) (fs := [.ref (a 0), .ref (a 1), .ref (a 2), .ref (a 3), .ref (a 4), .ref (a 5), .ref (a 6), .long (L8 0), .long (L8 1), .int (I9 0), .int (I9 1), .int (I9 2), .int (I9 3), .int (I9 4)]) (v := .int (nI z28)) (ty := .int) (C := RX8) (T := TX8) (N := 14) hx hb hts in_x_stopTheLacking_X8 tyX8 tyX8_ok nmX8 hown hK hP hD hS 0 rfl rfl 13 (by decide) (hts (.fieldLink RX8 335 "ServiceTree" "settledChanges" "I") (by decide +kernel)) (fun _ h9 => h9) rfl (by decide +kernel) rfl rfl (Nat.le_of_ble_eq_true rfl) dX8_stopTheLacking_72 (fun H locs hP hD hS => ?_)
            replace hP : va_P (dC, dI) vwCl ((xW h a e cI cJ cO cE L8 I9 M10 J n cap fE sd si11 sa12 dl).set 0 (h, .inr (9, [.ref (a 0), .ref (a 1), .ref (a 2), .ref (a 3), .ref (a 4), .ref (a 5), .ref (a 6), .long (L8 0), .long (L8 1), .int (I9 0), .int (I9 1), .int (I9 2), .int (I9 3), .int (nI z28)]))) H := hP
            replace hD : va_D A ((xW h a e cI cJ cO cE L8 I9 M10 J n cap fE sd si11 sa12 dl).set 0 (h, .inr (9, [.ref (a 0), .ref (a 1), .ref (a 2), .ref (a 3), .ref (a 4), .ref (a 5), .ref (a 6), .long (L8 0), .long (L8 1), .int (I9 0), .int (I9 1), .int (I9 2), .int (I9 3), .int (nI z28)]))) := hD
            rw [xF_I4] at hP hD
            obtain ⟨I29, eI29⟩ : ∃ f9 : Nat → Int32, f9 = va_up I9 4 (nI z28) := ⟨_, rfl⟩
            rw [← eI29] at hP hD
            replace hX : InvX n cap fE sd dl (b + 1 * i4) I29 J si11 := by rw [eI29]; exact hX.setI (by decide)
            replace hUI : ∀ j9 : Nat, j9 ∉ ([4, 12] : List Nat) → I29 j9 = I j9 := by rw [eI29]; exact mw_up (by decide) hUI
            rw [hQ]
            exact W.vret hx hb hr (fun t ht hW => ⟨⟨(L8, I29, M10, si11, sa12), rfl, ⟨hX.mono (by omega), hUL, hUI, hUM, hUsi, hUsa, trivial⟩, by rw [ht]; exact hP, hD⟩, hS.F ht⟩) hS.2.2 dX8_stopTheLacking_75
    exact lp7 (40 + 1) 0  L I M si sa _ _ _ (by omega) (by omega) (hX.mono (by omega)) hUL hUI hUM hUsi hUsa  hP hD hS hl
  · rw [hQ]
    exact W.vret hx hb hr (fun t ht hW => ⟨⟨(L, I, M, si, sa), rfl, ⟨hX.mono (by omega), hUL, hUI, hUM, hUsi, hUsa, trivial⟩, by rw [ht]; exact hP, hD⟩, hS.F ht⟩) hS.2.2 dX8_stopTheLacking_14
def wq_x_readLetters : List Cond := [.code yX8_readLetters cX8_readLetters 5 none, .fieldLink RX8 158 "ServiceTree" "withLetters" "J", .fieldLink RX8 53 "ServiceTree" "inState" "[J", .fieldLink RX8 10 "ServiceTree" "services" "Ljava/util/ArrayList;", .classLink RX8 65 RX7, .fieldLink RX8 195 "ServiceTree" "lettersRead" "I", .constantLong RX8 238 (-1), .methodLink RX8 61 yJx4a65c_size_8abf5, .instanceMethod yJx4a65c_size_8abf5, .selects RJx4a65c yJx4a65c_size_8abf5 yJx4a65c_size_8abf5, .initialized RJx4a65c, .methodLink RX8 114 yX8_holds, .static yX8_holds, .initialized RX8, .methodLink RX8 86 yJx4a65c_get_915e3, .instanceMethod yJx4a65c_get_915e3, .selects RJx4a65c yJx4a65c_get_915e3 yJx4a65c_get_915e3, .methodLink RX8 338 yX0_readFirst, .instanceMethod yX0_readFirst, .selects RX0 yX0_readFirst yX0_readFirst, .initialized RX0, .methodLink RX8 78 yX8_only, .static yX8_only] ++ (wsX00 ++ (wsX70 ++ (wsX80 ++ (wq_x_size ++ (wq_x_holds ++ (wq_x_get ++ (wq_x_readFirst ++ (wq_x_only))))))))
theorem in_x_readLetters_X0 : ∀ w ∈ wsX00, w ∈ wq_x_readLetters := fun _ h => List.mem_append_right _ (List.mem_append_left _ (h))
theorem in_x_readLetters_X7 : ∀ w ∈ wsX70, w ∈ wq_x_readLetters := fun _ h => List.mem_append_right _ (List.mem_append_right _ (List.mem_append_left _ (h)))
theorem in_x_readLetters_X8 : ∀ w ∈ wsX80, w ∈ wq_x_readLetters := fun _ h => List.mem_append_right _ (List.mem_append_right _ (List.mem_append_right _ (List.mem_append_left _ (h))))
set_option maxRecDepth 20000 in
theorem wi_x_readLetters : ∀ w ∈ wq_x_readLetters, w ∈ lw_tbl := List.forall_mem_append.mpr ⟨(by decide +kernel), List.forall_mem_append.mpr ⟨inKX0, List.forall_mem_append.mpr ⟨inKX7, List.forall_mem_append.mpr ⟨inKX8, List.forall_mem_append.mpr ⟨wi_x_size, List.forall_mem_append.mpr ⟨wi_x_holds, List.forall_mem_append.mpr ⟨wi_x_get, List.forall_mem_append.mpr ⟨wi_x_readFirst, wi_x_only⟩⟩⟩⟩⟩⟩⟩⟩
set_option maxRecDepth 20000 in
theorem wg_x_readLetters : GoodIn wq_x_readLetters wq_x_readLetters := goodIn_sub (fun _ h => h) (by decide +kernel)
set_option maxRecDepth 20000 in
theorem wc_x_readLetters_x_size_61 : GoodIn wq_x_readLetters (wsV RX8 61 RJx4a65c yJx4a65c_size_8abf5 wq_x_size) := goodIn_app (goodIn_of _ (by decide +kernel)) (fun w h => ⟨List.mem_append_right _ (List.mem_append_right _ (List.mem_append_right _ (List.mem_append_right _ (List.mem_append_left _ (h))))), (wg_x_size w h).2⟩)
set_option maxRecDepth 20000 in
theorem wc_x_readLetters_x_holds_114 : GoodIn wq_x_readLetters (va_wsS RX8 114 yX8_holds wq_x_holds) := goodIn_app (goodIn_of _ (by decide +kernel)) (fun w h => ⟨List.mem_append_right _ (List.mem_append_right _ (List.mem_append_right _ (List.mem_append_right _ (List.mem_append_right _ (List.mem_append_left _ (h)))))), (wg_x_holds w h).2⟩)
set_option maxRecDepth 20000 in
theorem wc_x_readLetters_x_get_86 : GoodIn wq_x_readLetters (wsV RX8 86 RJx4a65c yJx4a65c_get_915e3 wq_x_get) := goodIn_app (goodIn_of _ (by decide +kernel)) (fun w h => ⟨List.mem_append_right _ (List.mem_append_right _ (List.mem_append_right _ (List.mem_append_right _ (List.mem_append_right _ (List.mem_append_right _ (List.mem_append_left _ (h))))))), (wg_x_get w h).2⟩)
set_option maxRecDepth 20000 in
theorem wc_x_readLetters_x_readFirst_338 : GoodIn wq_x_readLetters (wsV RX8 338 RX0 yX0_readFirst wq_x_readFirst) := goodIn_app (goodIn_of _ (by decide +kernel)) (fun w h => ⟨List.mem_append_right _ (List.mem_append_right _ (List.mem_append_right _ (List.mem_append_right _ (List.mem_append_right _ (List.mem_append_right _ (List.mem_append_right _ (List.mem_append_left _ (h)))))))), (wg_x_readFirst w h).2⟩)
set_option maxRecDepth 20000 in
theorem wc_x_readLetters_x_only_78 : GoodIn wq_x_readLetters (va_wsS RX8 78 yX8_only wq_x_only) := goodIn_app (goodIn_of _ (by decide +kernel)) (fun w h => ⟨List.mem_append_right _ (List.mem_append_right _ (List.mem_append_right _ (List.mem_append_right _ (List.mem_append_right _ (List.mem_append_right _ (List.mem_append_right _ (List.mem_append_right _ (h)))))))), (wg_x_only w h).2⟩)
def rm_x_readLetters : Room := { frames := 3, cells := 0, slots := 0, locals := 64 }
set_option maxHeartbeats 4000000 in
set_option maxRecDepth 100000 in
theorem c_x_readLetters (l : Launch) (dC : Nat → ClassId) (dI : Nat → Nat → Nat) (h : Nat) (a : Nat → Nat) (e : Nat) (cI cJ cO cE : ClassId) (L : Nat → Int64) (I : Nat → Int32) (M : Nat → Nat → Int64) (J : Nat → Nat → Int32) (n cap : Nat) (fE : Nat → Option Nat) (sd : Nat → Nat → Nat) (si : Nat → Nat → Int32) (sa : Nat → Nat → Nat → Int32) (dl : Nat → Nat) (b : Nat)  (sz : Nat) (hX0 : InvX n cap fE sd dl b I J si) (hb0 : b + 0 < 2147483648)  : Met l yX8_readLetters wq_x_readLetters rm_x_readLetters (va_Pc [.ref h] (fun U => U.heap.size = sz ∧ va_P (dC, dI) vwCl (xW h a e cI cJ cO cE L I M J n cap fE sd si sa dl) U.heap ∧ va_K (dC, dI) vwCl (xT cI cJ cO cE) U ∧ va_D (fun _ => True) (xW h a e cI cJ cO cE L I M J n cap fE sd si sa dl) ∧ pw_N U)) (va_Qv (fun (u : (Nat → Int64) × (Nat → Int32) × (Nat → Nat → Int32)) => InvX n cap fE sd dl (b + 0) u.2.1 J u.2.2 ∧ (∀ j9 : Nat, j9 ∉ ([1] : List Nat) → u.1 j9 = L j9) ∧ (∀ j9 : Nat, j9 ∉ ([2] : List Nat) → u.2.1 j9 = I j9) ∧ (∀ s9 q9 : Nat, q9 ∉ ([31, 32, 33, 34] : List Nat) → u.2.2 s9 q9 = si s9 q9) ∧ (True)) (fun (u : (Nat → Int64) × (Nat → Int32) × (Nat → Nat → Int32)) (t : State) => va_P (dC, dI) vwCl (xW h a e cI cJ cO cE u.1 u.2.1 M J n cap fE sd u.2.2 sa dl) t.heap ∧ va_D (va_A (xW h a e cI cJ cO cE L I M J n cap fE sd si sa dl) sz) (xW h a e cI cJ cO cE u.1 u.2.1 M J n cap fE sd u.2.2 sa dl)) (va_A (xW h a e cI cJ cO cE L I M J n cap fE sd si sa dl) sz)) 0 0 (va_A (xW h a e cI cJ cO cE L I M J n cap fE sd si sa dl) sz) := by
  have hn : n ≤ 40 := hX0.1.1
  have hX := hX0
  have hUL : ∀ j9 : Nat, j9 ∉ ([1] : List Nat) → L j9 = L j9 := fun _ _ => rfl
  have hUI : ∀ j9 : Nat, j9 ∉ ([2] : List Nat) → I j9 = I j9 := fun _ _ => rfl
  have hUsi : ∀ s9 q9 : Nat, q9 ∉ ([31, 32, 33, 34] : List Nat) → si s9 q9 = si s9 q9 := fun _ _ _ => rfl
  refine Met.ofW (cc := cX8_readLetters) (maxL := 5) (ret := none) (by decide) rfl ?_
  intro p e9 s m args below meth c s₁ B hml hv
  obtain ⟨rfl, hsz, hP, hK, hD0, hN⟩ := hv
  have hx := B.exec
  have hb := B.bytes
  have hr := B.returns
  have hts := atoms_spec (ws := wq_x_readLetters) B.pre
  have hown : s.vm.findClass RX8 = some m.cls := findClass_of_methodNamed B.named
  have hlocks := B.notSynchronized
  subst hsz
  have hD := hD0.self (sz := s.heap.size)
  generalize hAe : va_A (xW h a e cI cJ cO cE L I M J n cap fE sd si sa dl) s.heap.size = A at hD ⊢
  have hA : ∀ q : Nat, s.heap.size ≤ q → A q := fun q h => by rw [← hAe]; exact Or.inr h
  have hS : va_S A s.heap s.heap [] := va_S.rf
  have hl := lv_entry ([.ref h]) (n := 5) (Nat.le_of_ble_eq_true rfl)
  rw [lg_entry_eq]
  generalize (lg_sl ([.ref h]) ++ List.replicate (5 - (lg_sl ([.ref h])).length) Slot.unset).toArray = ls at hl ⊢
  have hl : lv_has ls 5 [(0, .ref h)] := hl
  refine mw_Q (fun Q0 hQ => ?_)
  refine lv_aload_n hx hb dX8_readLetters_0 rfl (lv_at hl 0 rfl) ?_
  refine va_get (D := (dC, dI)) (ci := 9) (v := .long (L 1)) (C := RX8) (T := TX8) (N := 14) hx hb hts in_x_readLetters_X8 hown hK hP 0 rfl rfl 8 (by decide) (hts (.fieldLink RX8 158 "ServiceTree" "withLetters" "J") (by decide +kernel)) (fun _ h9 => h9) rfl dX8_readLetters_1 ?_
  refine lv_topl (fun x1 ex1 => ?_)
  refine lv_aload_n hx hb dX8_readLetters_4 rfl (lv_at hl 0 rfl) ?_
  refine va_get (D := (dC, dI)) (ci := 9) (v := .ref (a 6)) (C := RX8) (T := TX8) (N := 14) hx hb hts in_x_readLetters_X8 hown hK hP 0 rfl rfl 6 (by decide) (hts (.fieldLink RX8 53 "ServiceTree" "inState" "[J") (by decide +kernel)) (fun _ h9 => h9) rfl dX8_readLetters_5 ?_
  refine lv_iconst (v := 2) hx hb dX8_readLetters_8 (by decide) ?_
  refine va_lald (n := 6) (f := M 9) hx hb hK hP 21 1 rfl rfl (vp_in_nI (n := 2) (by omega) (by omega)) dX8_readLetters_9 ?_
  refine lv_topl (fun x2 ex2 => ?_)
  refine lv_land hx hb dX8_readLetters_10 ?_
  refine lv_topl (fun x3 ex3 => ?_)
  refine lv_lstore_n (lv' := [(1, .long x3), (0, .ref h)]) hx hb dX8_readLetters_11 rfl hl (by decide) rfl (fun ls hl => ?_)
  refine lv_lload_n hx hb dX8_readLetters_12 rfl (lv_at hl 0 rfl) ?_
  refine lv_lconst (v := 0) hx hb dX8_readLetters_13 (by decide) ?_
  refine W.lcmp hx hb dX8_readLetters_14 ?_
  refine lv_topi (fun x4 ex4 => ?_)
  refine lv_if_ne (tgt := 19) hx hb dX8_readLetters_15 (by decide) (fun c5 => ?_) (fun c5 => ?_)
  · refine lv_iconst (v := 0) hx hb dX8_readLetters_19 (by decide) ?_
    refine lv_istore_n (lv' := [(3, .int 0), (1, .long x3), (0, .ref h)]) hx hb dX8_readLetters_20 rfl hl (by decide) rfl (fun ls hl => ?_)
    have lp9 : ∀ (fu7 i6 : Nat)  (L10 : Nat → Int64) (I11 : Nat → Int32) (si12 : Nat → Nat → Int32) (H : Heap) (locs : List Loc) (ls : Array Slot), n < i6 + fu7 → i6 ≤ n → InvX n cap fE sd dl (b) I11 J si12 → (∀ j9 : Nat, j9 ∉ ([1] : List Nat) → L10 j9 = L j9) → (∀ j9 : Nat, j9 ∉ ([2] : List Nat) → I11 j9 = I j9) → (∀ s9 q9 : Nat, q9 ∉ ([31, 32, 33, 34] : List Nat) → si12 s9 q9 = si s9 q9) → va_P (dC, dI) vwCl (xW h a e cI cJ cO cE L10 I11 M J n cap fE sd si12 sa dl) H → va_D A (xW h a e cI cJ cO cE L10 I11 M J n cap fE sd si12 sa dl) → va_S A s.heap H locs → lv_has ls 5 [(3, .int (nI i6)), (1, .long x3), (0, .ref h)] → W p l e9 (headSpec wq_x_readLetters rm_x_readLetters).room s m ([.ref h] : List Value).toArray below meth c H locs 0 0 Q0 (F0 m 21 ls []) := by
      intro fu7
      induction fu7 with
      | zero =>
        intro i6  L10 I11 si12 H locs ls hf hi
        exact absurd hf (by omega)
      | succ fu7 ih8 =>
        intro i6  L10 I11 si12 H locs ls hfi6 hii6 hX hUL hUI hUsi hP hD hS hl
        refine lv_iload_n hx hb dX8_readLetters_21 rfl (lv_at hl 0 rfl) ?_
        refine lv_aload_n hx hb dX8_readLetters_22 rfl (lv_at hl 2 rfl) ?_
        refine va_get (D := (dC, dI)) (ci := 9) (v := .ref (a 0)) (C := RX8) (T := TX8) (N := 14) hx hb hts in_x_readLetters_X8 hown hK hP 0 rfl rfl 0 (by decide) (hts (.fieldLink RX8 10 "ServiceTree" "services" "Ljava/util/ArrayList;") (by decide +kernel)) (fun _ h9 => h9) rfl dX8_readLetters_23 ?_
        have hFc := mw_free hD hS hA
        refine va_calli (va_runV (As := []) (rest := [.int (nI i6)]) ⟨hx, hb, hml, hown, hts⟩ (c_x_size l dC dI h a e cI cJ cO cE L10 I11 M J n cap fE sd si12 sa dl (b)  H.size hX (by omega) ) (cwV 0 hts wc_x_readLetters_x_size_61 rfl rfl rfl (by decide +kernel) ⟨Nat.le_of_ble_eq_true rfl, Nat.le_of_ble_eq_true rfl⟩) ⟨fun a9 U g mk q => by obtain ⟨q0, q1, qP, qK, qD, qN⟩ := q; exact ⟨q0, q1, qP, va_K.moved (u := U) (U := U.calling g mk a9) (Vm.Alike.refl U.vm) qK, qD, pw_N.same (u := U) (U := U.calling g mk a9) rfl qN⟩, va_recv hK hP (ci := 0) (q0 := 1) rfl rfl, fun U hU hW => ⟨rfl, by rw [hU], by rw [hU]; exact hP, va_K.moved hW.alike hK, hD.weaken (fun _ _ _ _ => trivial), pw_N.warm hW hN⟩⟩ rfl rfl hl.1 rfl (lv_room (Nat.le_of_ble_eq_true rfl)) dX8_readLetters_26 ⟨Nat.le_of_ble_eq_true rfl, Nat.le_of_ble_eq_true rfl⟩) hS (fun q _ h => hFc q h) hFc (fun r13 u t H1 locs ht hvm hw hB hz1 hk1 hS => ?_)
        replace hP := hB.1
        rw [ht] at hP
        replace hD : va_D A (xW h a e cI cJ cO cE L10 I11 M J n cap fE sd si12 sa dl) := hB.2.weaken (fun _ q _ h9 => hFc q.1 h9)
        clear hB
        generalize H1 = H at hP hS ⊢
        replace hP : va_P (dC, dI) vwCl (xW h a e cI cJ cO cE L10 I11 M J n cap fE sd si12 sa dl) H := hP
        obtain rfl : r13 = nI n := hw
        refine lv_icmp_ge (tgt := 102) hx hb dX8_readLetters_29 (by decide) (fun c14 => ?_) (fun c14 => ?_)
        · replace c14 : n ≤ i6 := (nI_leI (a := n) (b := i6) (by omega) (by omega)).mp c14
          rw [hQ]
          exact W.vret hx hb hr (fun t ht hW => ⟨⟨(L10, I11, si12), rfl, ⟨hX.mono (by omega), hUL, hUI, hUsi, trivial⟩, by rw [ht]; exact hP, hD⟩, hS.F ht⟩) hS.2.2 dX8_readLetters_102
        · replace c14 : ¬ (n ≤ i6) := fun q9 => c14 ((nI_leI (a := n) (b := i6) (by omega) (by omega)).mpr q9)
          refine lv_lload_n hx hb dX8_readLetters_32 rfl (lv_at hl 1 rfl) ?_
          refine lv_iload_n hx hb dX8_readLetters_33 rfl (lv_at hl 0 rfl) ?_
          have hFc := mw_free hD hS hA
          refine va_calli (va_runS (As := [.long x3, .int (nI i6)]) (rest := []) ⟨hx, hb, hml, hown, hts⟩ (c_x_holds l dC dI h a e cI cJ cO cE L10 I11 M J n cap fE sd si12 sa dl (b) x3 (nI i6) H.size hX (by omega) ) (va_cwS 2 hts wc_x_readLetters_x_holds_114 rfl rfl rfl (by decide +kernel) ⟨Nat.le_of_ble_eq_true rfl, Nat.le_of_ble_eq_true rfl⟩) ⟨fun a9 U g mk q => by obtain ⟨q0, q1, qP, qK, qD, qN⟩ := q; exact ⟨q0, q1, qP, va_K.moved (u := U) (U := U.calling g mk a9) (Vm.Alike.refl U.vm) qK, qD, pw_N.same (u := U) (U := U.calling g mk a9) rfl qN⟩, fun U hU hW => ⟨rfl, by rw [hU], by rw [hU]; exact hP, va_K.moved hW.alike hK, hD.weaken (fun _ _ _ _ => trivial), pw_N.warm hW hN⟩⟩ rfl rfl hl.1 rfl (lv_room (Nat.le_of_ble_eq_true rfl)) dX8_readLetters_34 ⟨Nat.le_of_ble_eq_true rfl, Nat.le_of_ble_eq_true rfl⟩) hS (fun q _ h => hFc q h) hFc (fun r15 u t H1 locs ht hvm hw hB hz1 hk1 hS => ?_)
          replace hP := hB.1
          rw [ht] at hP
          replace hD : va_D A (xW h a e cI cJ cO cE L10 I11 M J n cap fE sd si12 sa dl) := hB.2.weaken (fun _ q _ h9 => hFc q.1 h9)
          clear hB
          generalize H1 = H at hP hS ⊢
          replace hP : va_P (dC, dI) vwCl (xW h a e cI cJ cO cE L10 I11 M J n cap fE sd si12 sa dl) H := hP
          have br15 := hw
          refine lv_if_eq (tgt := 96) hx hb dX8_readLetters_37 (by decide) (fun c16 => ?_) (fun c16 => ?_)
          · refine lv_iinc (v := (nI (i6 + 1))) (lv' := [(3, .int (nI (i6 + 1))), (1, .long x3), (0, .ref h)]) hx hb dX8_readLetters_96 hl (k := 0) rfl (nI_add i6 1) (by decide) rfl (fun ls hl => ?_)
            refine lv_goto (tgt := 21) hx hb dX8_readLetters_99 (by decide) ?_
            exact ih8 (i6 + 1)  L10 I11 si12 _ _ _ (by omega) (by omega) (hX.mono (by omega)) hUL hUI hUsi  hP hD hS (lv_sub hl [0, 1, 2] rfl)
          · refine lv_aload_n hx hb dX8_readLetters_40 rfl (lv_at hl 2 rfl) ?_
            refine va_get (D := (dC, dI)) (ci := 9) (v := .ref (a 0)) (C := RX8) (T := TX8) (N := 14) hx hb hts in_x_readLetters_X8 hown hK hP 0 rfl rfl 0 (by decide) (hts (.fieldLink RX8 10 "ServiceTree" "services" "Ljava/util/ArrayList;") (by decide +kernel)) (fun _ h9 => h9) rfl dX8_readLetters_41 ?_
            refine lv_iload_n hx hb dX8_readLetters_44 rfl (lv_at hl 0 rfl) ?_
            have hFc := mw_free hD hS hA
            refine va_callr (va_runV (As := [.int (nI i6)]) (rest := []) ⟨hx, hb, hml, hown, hts⟩ (c_x_get l dC dI h a e cI cJ cO cE L10 I11 M J n cap fE sd si12 sa dl (b) i6 H.size hX (by omega) (by omega)) (cwV 1 hts wc_x_readLetters_x_get_86 rfl rfl rfl (by decide +kernel) ⟨Nat.le_of_ble_eq_true rfl, Nat.le_of_ble_eq_true rfl⟩) ⟨fun a9 U g mk q => by obtain ⟨q0, q1, qP, qK, qD, qN⟩ := q; exact ⟨q0, q1, qP, va_K.moved (u := U) (U := U.calling g mk a9) (Vm.Alike.refl U.vm) qK, qD, pw_N.same (u := U) (U := U.calling g mk a9) rfl qN⟩, va_recv hK hP (ci := 0) (q0 := 1) rfl rfl, fun U hU hW => ⟨rfl, by rw [hU], by rw [hU]; exact hP, va_K.moved hW.alike hK, hD.weaken (fun _ _ _ _ => trivial), pw_N.warm hW hN⟩⟩ rfl rfl hl.1 rfl (lv_room (Nat.le_of_ble_eq_true rfl)) dX8_readLetters_45 ⟨Nat.le_of_ble_eq_true rfl, Nat.le_of_ble_eq_true rfl⟩) hS (fun q _ h => hFc q h) hFc (fun u r17 t H1 locs ht hvm hw hB hz1 hk1 hS => ?_)
            obtain ⟨hra, hB⟩ := hB
            replace hP := hB.1
            rw [ht] at hP
            replace hD : va_D A (xW h a e cI cJ cO cE L10 I11 M J n cap fE sd si12 sa dl) := hB.2.weaken (fun _ q _ h9 => hFc q.1 h9)
            clear hB
            generalize H1 = H at hP hS ⊢
            replace hP : va_P (dC, dI) vwCl (xW h a e cI cJ cO cE L10 I11 M J n cap fE sd si12 sa dl) H := hP
            subst hra
            refine va_castS hx hb hown (hts (.classLink RX8 65 RX7) (by decide +kernel)) (hK.1 8 _ rfl).2 (va_recv hK hP (ci := 8) (q0 := (22 + (6 * i6 + 0))) rfl (xAt_0 h a e cI cJ cO cE L10 I11 M J n cap fE sd si12 sa dl (s := i6) (by omega))) dX8_readLetters_48 ?_
            refine va_getN (D := (dC, dI)) (ci := 8) (v := .ref (sd i6 4)) (C := RX7) (T := TX7) (N := 12) hx hb hts in_x_readLetters_X7 hown hK hP (22 + (6 * i6 + 0)) (xAt_0 h a e cI cJ cO cE L10 I11 M J n cap fE sd si12 sa dl (s := i6) (by omega)) rfl 5 (by decide) (va_Nw.use rfl (hN (.fieldLinkNest RX8 142 "ServiceTree$Service" "door" "LServiceTree$Door;" "ServiceTree") (by decide +kernel))) (fun _ h9 => h9) rfl dX8_readLetters_51 ?_
            refine lv_astore (lv' := [(4, .ref (sd i6 4)), (3, .int (nI i6)), (1, .long x3), (0, .ref h)]) hx hb dX8_readLetters_54 hl (by decide) rfl (fun ls hl => ?_)
            refine lv_aload hx hb dX8_readLetters_56 (lv_at hl 0 rfl) ?_
            have hFc := mw_free hD hS hA
            refine va_callv (va_runV (As := []) (rest := []) ⟨hx, hb, hml, hown, hts⟩ (c_x_readFirst l dC dI h a e cI cJ cO cE L10 I11 M J n cap fE sd si12 sa dl (b) i6 H.size hX (by omega) (by omega)) (cwV 0 hts wc_x_readLetters_x_readFirst_338 rfl rfl rfl (by decide +kernel) ⟨Nat.le_of_ble_eq_true rfl, Nat.le_of_ble_eq_true rfl⟩) ⟨fun a9 U g mk q => by obtain ⟨q0, q1, qP, qK, qD, qN⟩ := q; exact ⟨q0, q1, qP, va_K.moved (u := U) (U := U.calling g mk a9) (Vm.Alike.refl U.vm) qK, qD, pw_N.same (u := U) (U := U.calling g mk a9) rfl qN⟩, va_recv hK hP (ci := 1) (q0 := (22 + (6 * i6 + 4))) rfl (xAt_4 h a e cI cJ cO cE L10 I11 M J n cap fE sd si12 sa dl (s := i6) (by omega)), fun U hU hW => ⟨rfl, by rw [hU], by rw [hU]; exact hP, va_K.moved hW.alike hK, hD.weaken (fun _ _ _ _ => trivial), pw_N.warm hW hN⟩⟩ rfl rfl hl.1 rfl (lv_room (Nat.le_of_ble_eq_true rfl)) dX8_readLetters_58 ⟨Nat.le_of_ble_eq_true rfl, Nat.le_of_ble_eq_true rfl⟩) hS (fun q _ h => hFc q h) hFc (fun u t H1 locs ht hvm hw hB hz1 hk1 hS => ?_)
            obtain ⟨si19, rfl⟩ : ∃ z9, z9 = u := ⟨_, rfl⟩
            replace hP := hB.1
            rw [ht] at hP
            replace hD : va_D A (xW h a e cI cJ cO cE L10 I11 M J n cap fE sd si19 sa dl) := hB.2.weaken (fun _ q _ h9 => hFc q.1 h9)
            clear hB
            generalize H1 = H at hP hS ⊢
            replace hP : va_P (dC, dI) vwCl (xW h a e cI cJ cO cE L10 I11 M J n cap fE sd si19 sa dl) H := hP
            obtain ⟨hwX, whUsi, hw⟩ := hw
            replace hX : InvX n cap fE sd dl (b) I11 J si19 := hwX
            replace hUsi : ∀ s9 q9 : Nat, q9 ∉ ([31, 32, 33, 34] : List Nat) → si19 s9 q9 = si s9 q9 := xw_tr2 (by decide) whUsi hUsi
            refine lv_aload_n hx hb dX8_readLetters_61 rfl (lv_at hl 3 rfl) ?_
            refine lv_dup hx hb dX8_readLetters_62 rfl ?_
            refine va_get (D := (dC, dI)) (ci := 9) (v := .int (I11 2)) (C := RX8) (T := TX8) (N := 14) hx hb hts in_x_readLetters_X8 hown hK hP 0 rfl rfl 11 (by decide) (hts (.fieldLink RX8 195 "ServiceTree" "lettersRead" "I") (by decide +kernel)) (fun _ h9 => h9) rfl dX8_readLetters_63 ?_
            refine lv_topi (fun x20 ex20 => ?_)
            refine lv_iconst (v := 1) hx hb dX8_readLetters_66 (by decide) ?_
            refine lv_iadd hx hb dX8_readLetters_67 ?_
            refine lv_topi (fun x21 ex21 => ?_)
            refine va_put (D := (dC, dI)) (ci := 9) (fs := [.ref (a 0), .ref (a 1), .ref (a 2), .ref (a 3), .ref (a 4), .ref (a 5), .ref (a 6), .long (L10 0), .long (L10 1), .int (I11 0), .int (I11 1), .int (I11 2), .int (I11 3), .int (I11 4)]) (v := .int x21) (ty := .int) (C := RX8) (T := TX8) (N := 14) hx hb hts in_x_readLetters_X8 tyX8 tyX8_ok nmX8 hown hK hP hD hS 0 rfl rfl 11 (by decide) (hts (.fieldLink RX8 195 "ServiceTree" "lettersRead" "I") (by decide +kernel)) (fun _ h9 => h9) rfl (by decide +kernel) rfl rfl (Nat.le_of_ble_eq_true rfl) dX8_readLetters_68 (fun H locs hP hD hS => ?_)
            replace hP : va_P (dC, dI) vwCl ((xW h a e cI cJ cO cE L10 I11 M J n cap fE sd si19 sa dl).set 0 (h, .inr (9, [.ref (a 0), .ref (a 1), .ref (a 2), .ref (a 3), .ref (a 4), .ref (a 5), .ref (a 6), .long (L10 0), .long (L10 1), .int (I11 0), .int (I11 1), .int x21, .int (I11 3), .int (I11 4)]))) H := hP
            replace hD : va_D A ((xW h a e cI cJ cO cE L10 I11 M J n cap fE sd si19 sa dl).set 0 (h, .inr (9, [.ref (a 0), .ref (a 1), .ref (a 2), .ref (a 3), .ref (a 4), .ref (a 5), .ref (a 6), .long (L10 0), .long (L10 1), .int (I11 0), .int (I11 1), .int x21, .int (I11 3), .int (I11 4)]))) := hD
            rw [xF_I2] at hP hD
            obtain ⟨I22, eI22⟩ : ∃ f9 : Nat → Int32, f9 = va_up I11 2 x21 := ⟨_, rfl⟩
            rw [← eI22] at hP hD
            replace hX : InvX n cap fE sd dl (b) I22 J si19 := by rw [eI22]; exact hX.setI (by decide)
            replace hUI : ∀ j9 : Nat, j9 ∉ ([2] : List Nat) → I22 j9 = I j9 := by rw [eI22]; exact mw_up (by decide) hUI
            refine lv_aload hx hb dX8_readLetters_71 (lv_at hl 0 rfl) ?_
            refine va_getN (D := (dC, dI)) (ci := 1) (v := .int (si19 i6 32)) (C := RX0) (T := TX0) (N := 5) hx hb hts in_x_readLetters_X0 hown hK hP (22 + (6 * i6 + 4)) (xAt_4 h a e cI cJ cO cE L10 I22 M J n cap fE sd si19 sa dl (s := i6) (by omega)) rfl 2 (by decide) (va_Nw.use rfl (hN (.fieldLinkNest RX8 182 "ServiceTree$Door" "size" "I" "ServiceTree") (by decide +kernel))) (fun _ h9 => h9) rfl dX8_readLetters_73 ?_
            obtain ⟨hdz23, z23, hz23, ez23⟩ := hX.2.2.2.2.2.2.1 i6
            refine p1_topr (v := .int (nI z23)) (congrArg Value.int ez23) ?_
            refine lv_if_ne (tgt := 96) hx hb dX8_readLetters_76 (by decide) (fun c24 => ?_) (fun c24 => ?_)
            · replace c24 : ¬ (z23 = 0) := fun q9 => c24 ((nI_eq (a := z23) (b := 0) (by omega) (by omega)).mpr q9)
              refine lv_iinc (v := (nI (i6 + 1))) (lv' := [(3, .int (nI (i6 + 1))), (4, .ref (sd i6 4)), (1, .long x3), (0, .ref h)]) hx hb dX8_readLetters_96 hl (k := 1) rfl (nI_add i6 1) (by decide) rfl (fun ls hl => ?_)
              refine lv_goto (tgt := 21) hx hb dX8_readLetters_99 (by decide) ?_
              exact ih8 (i6 + 1)  L10 I22 si19 _ _ _ (by omega) (by omega) (hX.mono (by omega)) hUL hUI hUsi  hP hD hS (lv_sub hl [0, 2, 3] rfl)
            · replace c24 : z23 = 0 := (nI_eq (a := z23) (b := 0) (by omega) (by omega)).mp c24
              refine lv_aload_n hx hb dX8_readLetters_79 rfl (lv_at hl 3 rfl) ?_
              refine lv_dup hx hb dX8_readLetters_80 rfl ?_
              refine va_get (D := (dC, dI)) (ci := 9) (v := .long (L10 1)) (C := RX8) (T := TX8) (N := 14) hx hb hts in_x_readLetters_X8 hown hK hP 0 rfl rfl 8 (by decide) (hts (.fieldLink RX8 158 "ServiceTree" "withLetters" "J") (by decide +kernel)) (fun _ h9 => h9) rfl dX8_readLetters_81 ?_
              refine lv_topl (fun x25 ex25 => ?_)
              refine lv_iload_n hx hb dX8_readLetters_84 rfl (lv_at hl 1 rfl) ?_
              have hFc := mw_free hD hS hA
              refine va_calll (va_runS (As := [.int (nI i6)]) (rest := [.long x25, .ref h]) ⟨hx, hb, hml, hown, hts⟩ (c_x_only l dC dI h a e cI cJ cO cE L10 I22 M J n cap fE sd si19 sa dl (b) (nI i6) H.size hX (by omega) ) (va_cwS 1 hts wc_x_readLetters_x_only_78 rfl rfl rfl (by decide +kernel) ⟨Nat.le_of_ble_eq_true rfl, Nat.le_of_ble_eq_true rfl⟩) ⟨fun a9 U g mk q => by obtain ⟨q0, q1, qP, qK, qD, qN⟩ := q; exact ⟨q0, q1, qP, va_K.moved (u := U) (U := U.calling g mk a9) (Vm.Alike.refl U.vm) qK, qD, pw_N.same (u := U) (U := U.calling g mk a9) rfl qN⟩, fun U hU hW => ⟨rfl, by rw [hU], by rw [hU]; exact hP, va_K.moved hW.alike hK, hD.weaken (fun _ _ _ _ => trivial), pw_N.warm hW hN⟩⟩ rfl rfl hl.1 rfl (lv_room (Nat.le_of_ble_eq_true rfl)) dX8_readLetters_85 ⟨Nat.le_of_ble_eq_true rfl, Nat.le_of_ble_eq_true rfl⟩) hS (fun q _ h => hFc q h) hFc (fun r26 u t H1 locs ht hvm hw hB hz1 hk1 hS => ?_)
              replace hP := hB.1
              rw [ht] at hP
              replace hD : va_D A (xW h a e cI cJ cO cE L10 I22 M J n cap fE sd si19 sa dl) := hB.2.weaken (fun _ q _ h9 => hFc q.1 h9)
              clear hB
              generalize H1 = H at hP hS ⊢
              replace hP : va_P (dC, dI) vwCl (xW h a e cI cJ cO cE L10 I22 M J n cap fE sd si19 sa dl) H := hP
              refine lv_ldc2 (v := (-1)) hx hb hown (hts (.constantLong RX8 238 (-1)) (by decide +kernel)) dX8_readLetters_88 ?_
              refine lv_lxor hx hb dX8_readLetters_91 ?_
              refine lv_topl (fun x27 ex27 => ?_)
              refine lv_land hx hb dX8_readLetters_92 ?_
              refine lv_topl (fun x28 ex28 => ?_)
              refine va_put (D := (dC, dI)) (ci := 9) (fs := [.ref (a 0), .ref (a 1), .ref (a 2), .ref (a 3), .ref (a 4), .ref (a 5), .ref (a 6), .long (L10 0), .long (L10 1), .int (I22 0), .int (I22 1), .int (I22 2), .int (I22 3), .int (I22 4)]) (v := .long x28) (ty := .long) (C := RX8) (T := TX8) (N := 14) hx hb hts in_x_readLetters_X8 tyX8 tyX8_ok nmX8 hown hK hP hD hS 0 rfl rfl 8 (by decide) (hts (.fieldLink RX8 158 "ServiceTree" "withLetters" "J") (by decide +kernel)) (fun _ h9 => h9) rfl (by decide +kernel) rfl rfl (Nat.le_of_ble_eq_true rfl) dX8_readLetters_93 (fun H locs hP hD hS => ?_)
              replace hP : va_P (dC, dI) vwCl ((xW h a e cI cJ cO cE L10 I22 M J n cap fE sd si19 sa dl).set 0 (h, .inr (9, [.ref (a 0), .ref (a 1), .ref (a 2), .ref (a 3), .ref (a 4), .ref (a 5), .ref (a 6), .long (L10 0), .long x28, .int (I22 0), .int (I22 1), .int (I22 2), .int (I22 3), .int (I22 4)]))) H := hP
              replace hD : va_D A ((xW h a e cI cJ cO cE L10 I22 M J n cap fE sd si19 sa dl).set 0 (h, .inr (9, [.ref (a 0), .ref (a 1), .ref (a 2), .ref (a 3), .ref (a 4), .ref (a 5), .ref (a 6), .long (L10 0), .long x28, .int (I22 0), .int (I22 1), .int (I22 2), .int (I22 3), .int (I22 4)]))) := hD
              rw [xF_L1] at hP hD
              obtain ⟨L29, eL29⟩ : ∃ f9 : Nat → Int64, f9 = va_up L10 1 x28 := ⟨_, rfl⟩
              rw [← eL29] at hP hD
              replace hUL : ∀ j9 : Nat, j9 ∉ ([1] : List Nat) → L29 j9 = L j9 := by rw [eL29]; exact mw_up (by decide) hUL
              refine lv_iinc (v := (nI (i6 + 1))) (lv' := [(3, .int (nI (i6 + 1))), (4, .ref (sd i6 4)), (1, .long x3), (0, .ref h)]) hx hb dX8_readLetters_96 hl (k := 1) rfl (nI_add i6 1) (by decide) rfl (fun ls hl => ?_)
              refine lv_goto (tgt := 21) hx hb dX8_readLetters_99 (by decide) ?_
              exact ih8 (i6 + 1)  L29 I22 si19 _ _ _ (by omega) (by omega) (hX.mono (by omega)) hUL hUI hUsi  hP hD hS (lv_sub hl [0, 2, 3] rfl)
    exact lp9 (n + 1) 0  L I si _ _ _ (by omega) (by omega) (hX.mono (by omega)) hUL hUI hUsi  hP hD hS hl
  · rw [hQ]
    exact W.vret hx hb hr (fun t ht hW => ⟨⟨(L, I, si), rfl, ⟨hX.mono (by omega), hUL, hUI, hUsi, trivial⟩, by rw [ht]; exact hP, hD⟩, hS.F ht⟩) hS.2.2 dX8_readLetters_18
def wq_x_passTick : List Cond := [.code yX8_passTick cX8_passTick 4 none, .fieldLink RX8 67 "ServiceTree" "now" "I", .fieldLink RX8 53 "ServiceTree" "inState" "[J", .fieldLink RX8 311 "ServiceTree" "living" "J", .fieldLink RX8 10 "ServiceTree" "services" "Ljava/util/ArrayList;", .classLink RX8 65 RX7, .methodLink RX8 317 yX8_stopTheLacking, .instanceMethod yX8_stopTheLacking, .selects RX8 yX8_stopTheLacking yX8_stopTheLacking, .initialized RX8, .methodLink RX8 320 yX8_readLetters, .instanceMethod yX8_readLetters, .selects RX8 yX8_readLetters yX8_readLetters, .methodLink RX8 260 yX8_beginJobs, .instanceMethod yX8_beginJobs, .selects RX8 yX8_beginJobs yX8_beginJobs, .methodLink RX8 61 yJx4a65c_size_8abf5, .instanceMethod yJx4a65c_size_8abf5, .selects RJx4a65c yJx4a65c_size_8abf5 yJx4a65c_size_8abf5, .initialized RJx4a65c, .methodLink RX8 114 yX8_holds, .static yX8_holds, .methodLink RX8 86 yJx4a65c_get_915e3, .instanceMethod yJx4a65c_get_915e3, .selects RJx4a65c yJx4a65c_get_915e3 yJx4a65c_get_915e3, .methodLink RX8 283 yX7_isDue, .instanceMethod yX7_isDue, .selects RX7 yX7_isDue yX7_isDue, .initialized RX7, .methodLink RX8 314 yX8_passDueTime, .instanceMethod yX8_passDueTime, .selects RX8 yX8_passDueTime yX8_passDueTime] ++ (wsX80 ++ (wq_x_stopTheLacking ++ (wq_x_readLetters ++ (wq_x_beginJobs ++ (wq_x_size ++ (wq_x_holds ++ (wq_x_get ++ (wq_x_isDue ++ (wq_x_passDueTime)))))))))
theorem in_x_passTick_X8 : ∀ w ∈ wsX80, w ∈ wq_x_passTick := fun _ h => List.mem_append_right _ (List.mem_append_left _ (h))
set_option maxRecDepth 20000 in
theorem wi_x_passTick : ∀ w ∈ wq_x_passTick, w ∈ lw_tbl := List.forall_mem_append.mpr ⟨(by decide +kernel), List.forall_mem_append.mpr ⟨inKX8, List.forall_mem_append.mpr ⟨wi_x_stopTheLacking, List.forall_mem_append.mpr ⟨wi_x_readLetters, List.forall_mem_append.mpr ⟨wi_x_beginJobs, List.forall_mem_append.mpr ⟨wi_x_size, List.forall_mem_append.mpr ⟨wi_x_holds, List.forall_mem_append.mpr ⟨wi_x_get, List.forall_mem_append.mpr ⟨wi_x_isDue, wi_x_passDueTime⟩⟩⟩⟩⟩⟩⟩⟩⟩
set_option maxRecDepth 20000 in
theorem wg_x_passTick : GoodIn wq_x_passTick wq_x_passTick := goodIn_sub (fun _ h => h) (by decide +kernel)
set_option maxRecDepth 20000 in
theorem wc_x_passTick_x_stopTheLacking_317 : GoodIn wq_x_passTick (wsV RX8 317 RX8 yX8_stopTheLacking wq_x_stopTheLacking) := goodIn_app (goodIn_of _ (by decide +kernel)) (fun w h => ⟨List.mem_append_right _ (List.mem_append_right _ (List.mem_append_left _ (h))), (wg_x_stopTheLacking w h).2⟩)
set_option maxRecDepth 20000 in
theorem wc_x_passTick_x_readLetters_320 : GoodIn wq_x_passTick (wsV RX8 320 RX8 yX8_readLetters wq_x_readLetters) := goodIn_app (goodIn_of _ (by decide +kernel)) (fun w h => ⟨List.mem_append_right _ (List.mem_append_right _ (List.mem_append_right _ (List.mem_append_left _ (h)))), (wg_x_readLetters w h).2⟩)
set_option maxRecDepth 20000 in
theorem wc_x_passTick_x_beginJobs_260 : GoodIn wq_x_passTick (wsV RX8 260 RX8 yX8_beginJobs wq_x_beginJobs) := goodIn_app (goodIn_of _ (by decide +kernel)) (fun w h => ⟨List.mem_append_right _ (List.mem_append_right _ (List.mem_append_right _ (List.mem_append_right _ (List.mem_append_left _ (h))))), (wg_x_beginJobs w h).2⟩)
set_option maxRecDepth 20000 in
theorem wc_x_passTick_x_size_61 : GoodIn wq_x_passTick (wsV RX8 61 RJx4a65c yJx4a65c_size_8abf5 wq_x_size) := goodIn_app (goodIn_of _ (by decide +kernel)) (fun w h => ⟨List.mem_append_right _ (List.mem_append_right _ (List.mem_append_right _ (List.mem_append_right _ (List.mem_append_right _ (List.mem_append_left _ (h)))))), (wg_x_size w h).2⟩)
set_option maxRecDepth 20000 in
theorem wc_x_passTick_x_holds_114 : GoodIn wq_x_passTick (va_wsS RX8 114 yX8_holds wq_x_holds) := goodIn_app (goodIn_of _ (by decide +kernel)) (fun w h => ⟨List.mem_append_right _ (List.mem_append_right _ (List.mem_append_right _ (List.mem_append_right _ (List.mem_append_right _ (List.mem_append_right _ (List.mem_append_left _ (h))))))), (wg_x_holds w h).2⟩)
set_option maxRecDepth 20000 in
theorem wc_x_passTick_x_get_86 : GoodIn wq_x_passTick (wsV RX8 86 RJx4a65c yJx4a65c_get_915e3 wq_x_get) := goodIn_app (goodIn_of _ (by decide +kernel)) (fun w h => ⟨List.mem_append_right _ (List.mem_append_right _ (List.mem_append_right _ (List.mem_append_right _ (List.mem_append_right _ (List.mem_append_right _ (List.mem_append_right _ (List.mem_append_left _ (h)))))))), (wg_x_get w h).2⟩)
set_option maxRecDepth 20000 in
theorem wc_x_passTick_x_isDue_283 : GoodIn wq_x_passTick (wsV RX8 283 RX7 yX7_isDue wq_x_isDue) := goodIn_app (goodIn_of _ (by decide +kernel)) (fun w h => ⟨List.mem_append_right _ (List.mem_append_right _ (List.mem_append_right _ (List.mem_append_right _ (List.mem_append_right _ (List.mem_append_right _ (List.mem_append_right _ (List.mem_append_right _ (List.mem_append_left _ (h))))))))), (wg_x_isDue w h).2⟩)
set_option maxRecDepth 20000 in
theorem wc_x_passTick_x_passDueTime_314 : GoodIn wq_x_passTick (wsV RX8 314 RX8 yX8_passDueTime wq_x_passDueTime) := goodIn_app (goodIn_of _ (by decide +kernel)) (fun w h => ⟨List.mem_append_right _ (List.mem_append_right _ (List.mem_append_right _ (List.mem_append_right _ (List.mem_append_right _ (List.mem_append_right _ (List.mem_append_right _ (List.mem_append_right _ (List.mem_append_right _ (h))))))))), (wg_x_passDueTime w h).2⟩)
def rm_x_passTick : Room := { frames := 6, cells := 0, slots := 0, locals := 133 }
set_option maxHeartbeats 4000000 in
set_option maxRecDepth 100000 in
theorem c_x_passTick (l : Launch) (dC : Nat → ClassId) (dI : Nat → Nat → Nat) (h : Nat) (a : Nat → Nat) (e : Nat) (cI cJ cO cE : ClassId) (L : Nat → Int64) (I : Nat → Int32) (M : Nat → Nat → Int64) (J : Nat → Nat → Int32) (n cap : Nat) (fE : Nat → Option Nat) (sd : Nat → Nat → Nat) (si : Nat → Nat → Int32) (sa : Nat → Nat → Nat → Int32) (dl : Nat → Nat) (b : Nat)  (sz : Nat) (hX0 : InvX n cap fE sd dl b I J si) (hb0 : b + 120 < 2147483648)  : Met l yX8_passTick wq_x_passTick rm_x_passTick (va_Pc [.ref h] (fun U => U.heap.size = sz ∧ va_P (dC, dI) vwCl (xW h a e cI cJ cO cE L I M J n cap fE sd si sa dl) U.heap ∧ va_K (dC, dI) vwCl (xT cI cJ cO cE) U ∧ va_D (fun _ => True) (xW h a e cI cJ cO cE L I M J n cap fE sd si sa dl) ∧ pw_N U)) (va_Qv (fun (u : (Nat → Int64) × (Nat → Int32) × (Nat → Nat → Int64) × (Nat → Nat → Int32) × (Nat → Nat → Nat → Int32)) => InvX n cap fE sd dl (b + 120) u.2.1 J u.2.2.2.1 ∧ (∀ j9 : Nat, j9 ∉ ([0, 1, 5, 6, 7] : List Nat) → u.1 j9 = L j9) ∧ (∀ j9 : Nat, j9 ∉ ([0, 2, 4, 12] : List Nat) → u.2.1 j9 = I j9) ∧ (∀ j9 : Nat, j9 ∉ ([8, 9] : List Nat) → u.2.2.1 j9 = M j9) ∧ (∀ s9 q9 : Nat, q9 ∉ ([6, 7, 8, 9, 10, 11, 21, 22, 31, 32, 33, 34] : List Nat) → u.2.2.2.1 s9 q9 = si s9 q9) ∧ (∀ s9 q9 : Nat, q9 ∉ ([3] : List Nat) → u.2.2.2.2 s9 q9 = sa s9 q9) ∧ (u.2.1 0 = I 0 + 1)) (fun (u : (Nat → Int64) × (Nat → Int32) × (Nat → Nat → Int64) × (Nat → Nat → Int32) × (Nat → Nat → Nat → Int32)) (t : State) => va_P (dC, dI) vwCl (xW h a e cI cJ cO cE u.1 u.2.1 u.2.2.1 J n cap fE sd u.2.2.2.1 u.2.2.2.2 dl) t.heap ∧ va_D (va_A (xW h a e cI cJ cO cE L I M J n cap fE sd si sa dl) sz) (xW h a e cI cJ cO cE u.1 u.2.1 u.2.2.1 J n cap fE sd u.2.2.2.1 u.2.2.2.2 dl)) (va_A (xW h a e cI cJ cO cE L I M J n cap fE sd si sa dl) sz)) 0 0 (va_A (xW h a e cI cJ cO cE L I M J n cap fE sd si sa dl) sz) := by
  have hn : n ≤ 40 := hX0.1.1
  have hX := hX0
  have hUL : ∀ j9 : Nat, j9 ∉ ([0, 1, 5, 6, 7] : List Nat) → L j9 = L j9 := fun _ _ => rfl
  have hUI : ∀ j9 : Nat, j9 ∉ ([0, 2, 4, 12] : List Nat) → I j9 = I j9 := fun _ _ => rfl
  have hUM : ∀ j9 : Nat, j9 ∉ ([8, 9] : List Nat) → M j9 = M j9 := fun _ _ => rfl
  have hUsi : ∀ s9 q9 : Nat, q9 ∉ ([6, 7, 8, 9, 10, 11, 21, 22, 31, 32, 33, 34] : List Nat) → si s9 q9 = si s9 q9 := fun _ _ _ => rfl
  have hUsa : ∀ s9 q9 : Nat, q9 ∉ ([3] : List Nat) → sa s9 q9 = sa s9 q9 := fun _ _ _ => rfl
  refine Met.ofW (cc := cX8_passTick) (maxL := 4) (ret := none) (by decide) rfl ?_
  intro p e9 s m args below meth c s₁ B hml hv
  obtain ⟨rfl, hsz, hP, hK, hD0, hN⟩ := hv
  have hx := B.exec
  have hb := B.bytes
  have hr := B.returns
  have hts := atoms_spec (ws := wq_x_passTick) B.pre
  have hown : s.vm.findClass RX8 = some m.cls := findClass_of_methodNamed B.named
  have hlocks := B.notSynchronized
  subst hsz
  have hD := hD0.self (sz := s.heap.size)
  generalize hAe : va_A (xW h a e cI cJ cO cE L I M J n cap fE sd si sa dl) s.heap.size = A at hD ⊢
  have hA : ∀ q : Nat, s.heap.size ≤ q → A q := fun q h => by rw [← hAe]; exact Or.inr h
  have hS : va_S A s.heap s.heap [] := va_S.rf
  have hl := lv_entry ([.ref h]) (n := 4) (Nat.le_of_ble_eq_true rfl)
  rw [lg_entry_eq]
  generalize (lg_sl ([.ref h]) ++ List.replicate (4 - (lg_sl ([.ref h])).length) Slot.unset).toArray = ls at hl ⊢
  have hl : lv_has ls 4 [(0, .ref h)] := hl
  refine mw_Q (fun Q0 hQ => ?_)
  refine lv_aload_n hx hb dX8_passTick_0 rfl (lv_at hl 0 rfl) ?_
  refine lv_dup hx hb dX8_passTick_1 rfl ?_
  refine va_get (D := (dC, dI)) (ci := 9) (v := .int (I 0)) (C := RX8) (T := TX8) (N := 14) hx hb hts in_x_passTick_X8 hown hK hP 0 rfl rfl 9 (by decide) (hts (.fieldLink RX8 67 "ServiceTree" "now" "I") (by decide +kernel)) (fun _ h9 => h9) rfl dX8_passTick_2 ?_
  refine lv_topi (fun x1 ex1 => ?_)
  refine lv_iconst (v := 1) hx hb dX8_passTick_5 (by decide) ?_
  refine lv_iadd hx hb dX8_passTick_6 ?_
  refine lv_topi (fun x2 ex2 => ?_)
  refine va_put (D := (dC, dI)) (ci := 9) (fs := [.ref (a 0), .ref (a 1), .ref (a 2), .ref (a 3), .ref (a 4), .ref (a 5), .ref (a 6), .long (L 0), .long (L 1), .int (I 0), .int (I 1), .int (I 2), .int (I 3), .int (I 4)]) (v := .int x2) (ty := .int) (C := RX8) (T := TX8) (N := 14) hx hb hts in_x_passTick_X8 tyX8 tyX8_ok nmX8 hown hK hP hD hS 0 rfl rfl 9 (by decide) (hts (.fieldLink RX8 67 "ServiceTree" "now" "I") (by decide +kernel)) (fun _ h9 => h9) rfl (by decide +kernel) rfl rfl (Nat.le_of_ble_eq_true rfl) dX8_passTick_7 (fun H locs hP hD hS => ?_)
  replace hP : va_P (dC, dI) vwCl ((xW h a e cI cJ cO cE L I M J n cap fE sd si sa dl).set 0 (h, .inr (9, [.ref (a 0), .ref (a 1), .ref (a 2), .ref (a 3), .ref (a 4), .ref (a 5), .ref (a 6), .long (L 0), .long (L 1), .int x2, .int (I 1), .int (I 2), .int (I 3), .int (I 4)]))) H := hP
  replace hD : va_D A ((xW h a e cI cJ cO cE L I M J n cap fE sd si sa dl).set 0 (h, .inr (9, [.ref (a 0), .ref (a 1), .ref (a 2), .ref (a 3), .ref (a 4), .ref (a 5), .ref (a 6), .long (L 0), .long (L 1), .int x2, .int (I 1), .int (I 2), .int (I 3), .int (I 4)]))) := hD
  rw [xF_I0] at hP hD
  obtain ⟨I3, eI3⟩ : ∃ f9 : Nat → Int32, f9 = va_up I 0 x2 := ⟨_, rfl⟩
  rw [← eI3] at hP hD
  replace hX : InvX n cap fE sd dl (b) I3 J si := by rw [eI3]; exact hX.setI (by decide)
  have hk0 : I3 0 = I 0 + 1 := by rw [eI3, va_up_self, ex2, ex1]
  replace hUI : ∀ j9 : Nat, j9 ∉ ([0, 2, 4, 12] : List Nat) → I3 j9 = I j9 := by rw [eI3]; exact mw_up (by decide) hUI
  refine lv_aload_n hx hb dX8_passTick_10 rfl (lv_at hl 0 rfl) ?_
  refine va_get (D := (dC, dI)) (ci := 9) (v := .ref (a 6)) (C := RX8) (T := TX8) (N := 14) hx hb hts in_x_passTick_X8 hown hK hP 0 rfl rfl 6 (by decide) (hts (.fieldLink RX8 53 "ServiceTree" "inState" "[J") (by decide +kernel)) (fun _ h9 => h9) rfl dX8_passTick_11 ?_
  refine lv_iconst (v := 1) hx hb dX8_passTick_14 (by decide) ?_
  refine va_lald (n := 6) (f := M 9) hx hb hK hP 21 1 rfl rfl (vp_in_nI (n := 1) (by omega) (by omega)) dX8_passTick_15 ?_
  refine lv_topl (fun x4 ex4 => ?_)
  refine lv_aload_n hx hb dX8_passTick_16 rfl (lv_at hl 0 rfl) ?_
  refine va_get (D := (dC, dI)) (ci := 9) (v := .ref (a 6)) (C := RX8) (T := TX8) (N := 14) hx hb hts in_x_passTick_X8 hown hK hP 0 rfl rfl 6 (by decide) (hts (.fieldLink RX8 53 "ServiceTree" "inState" "[J") (by decide +kernel)) (fun _ h9 => h9) rfl dX8_passTick_17 ?_
  refine lv_iconst (v := 3) hx hb dX8_passTick_20 (by decide) ?_
  refine va_lald (n := 6) (f := M 9) hx hb hK hP 21 1 rfl rfl (vp_in_nI (n := 3) (by omega) (by omega)) dX8_passTick_21 ?_
  refine lv_topl (fun x5 ex5 => ?_)
  refine lv_lor hx hb dX8_passTick_22 ?_
  refine lv_topl (fun x6 ex6 => ?_)
  refine lv_aload_n hx hb dX8_passTick_23 rfl (lv_at hl 0 rfl) ?_
  refine va_get (D := (dC, dI)) (ci := 9) (v := .ref (a 6)) (C := RX8) (T := TX8) (N := 14) hx hb hts in_x_passTick_X8 hown hK hP 0 rfl rfl 6 (by decide) (hts (.fieldLink RX8 53 "ServiceTree" "inState" "[J") (by decide +kernel)) (fun _ h9 => h9) rfl dX8_passTick_24 ?_
  refine lv_iconst (v := 5) hx hb dX8_passTick_27 (by decide) ?_
  refine va_lald (n := 6) (f := M 9) hx hb hK hP 21 1 rfl rfl (vp_in_nI (n := 5) (by omega) (by omega)) dX8_passTick_28 ?_
  refine lv_topl (fun x7 ex7 => ?_)
  refine lv_lor hx hb dX8_passTick_29 ?_
  refine lv_topl (fun x8 ex8 => ?_)
  refine lv_aload_n hx hb dX8_passTick_30 rfl (lv_at hl 0 rfl) ?_
  refine va_get (D := (dC, dI)) (ci := 9) (v := .long (L 0)) (C := RX8) (T := TX8) (N := 14) hx hb hts in_x_passTick_X8 hown hK hP 0 rfl rfl 7 (by decide) (hts (.fieldLink RX8 311 "ServiceTree" "living" "J") (by decide +kernel)) (fun _ h9 => h9) rfl dX8_passTick_31 ?_
  refine lv_topl (fun x9 ex9 => ?_)
  refine lv_lor hx hb dX8_passTick_34 ?_
  refine lv_topl (fun x10 ex10 => ?_)
  refine lv_lstore_n (lv' := [(1, .long x10), (0, .ref h)]) hx hb dX8_passTick_35 rfl hl (by decide) rfl (fun ls hl => ?_)
  refine lv_lload_n hx hb dX8_passTick_36 rfl (lv_at hl 0 rfl) ?_
  refine lv_lconst (v := 0) hx hb dX8_passTick_37 (by decide) ?_
  refine W.lcmp hx hb dX8_passTick_38 ?_
  refine lv_topi (fun x11 ex11 => ?_)
  refine lv_if_eq (tgt := 95) hx hb dX8_passTick_39 (by decide) (fun c12 => ?_) (fun c12 => ?_)
  · refine lv_aload_n hx hb dX8_passTick_95 rfl (lv_at hl 1 rfl) ?_
    have hFc := mw_free hD hS hA
    refine va_callv (va_runV (As := []) (rest := []) ⟨hx, hb, hml, hown, hts⟩ (c_x_stopTheLacking l dC dI h a e cI cJ cO cE L I3 M J n cap fE sd si sa dl (b)  H.size hX (by omega) ) (cwV 0 hts wc_x_passTick_x_stopTheLacking_317 rfl rfl rfl (by decide +kernel) ⟨Nat.le_of_ble_eq_true rfl, Nat.le_of_ble_eq_true rfl⟩) ⟨fun a9 U g mk q => by obtain ⟨q0, q1, qP, qK, qD, qN⟩ := q; exact ⟨q0, q1, qP, va_K.moved (u := U) (U := U.calling g mk a9) (Vm.Alike.refl U.vm) qK, qD, pw_N.same (u := U) (U := U.calling g mk a9) rfl qN⟩, va_recv hK hP (ci := 9) (q0 := 0) rfl rfl, fun U hU hW => ⟨rfl, by rw [hU], by rw [hU]; exact hP, va_K.moved hW.alike hK, hD.weaken (fun _ _ _ _ => trivial), pw_N.warm hW hN⟩⟩ rfl rfl hl.1 rfl (lv_room (Nat.le_of_ble_eq_true rfl)) dX8_passTick_96 ⟨Nat.le_of_ble_eq_true rfl, Nat.le_of_ble_eq_true rfl⟩) hS (fun q _ h => hFc q h) hFc (fun u t H1 locs ht hvm hw hB hz1 hk1 hS => ?_)
    obtain ⟨L14, I15, M16, si17, sa18⟩ := u
    replace hP := hB.1
    rw [ht] at hP
    replace hD : va_D A (xW h a e cI cJ cO cE L14 I15 M16 J n cap fE sd si17 sa18 dl) := hB.2.weaken (fun _ q _ h9 => hFc q.1 h9)
    clear hB
    generalize H1 = H at hP hS ⊢
    replace hP : va_P (dC, dI) vwCl (xW h a e cI cJ cO cE L14 I15 M16 J n cap fE sd si17 sa18 dl) H := hP
    obtain ⟨hwX, whUL, whUI, whUM, whUsi, whUsa, hw⟩ := hw
    replace hX : InvX n cap fE sd dl (b + 40) I15 J si17 := hwX
    replace hUL : ∀ j9 : Nat, j9 ∉ ([0, 1, 5, 6, 7] : List Nat) → L14 j9 = L j9 := mw_tr (by decide) whUL hUL
    replace hUI : ∀ j9 : Nat, j9 ∉ ([0, 2, 4, 12] : List Nat) → I15 j9 = I j9 := mw_tr (by decide) whUI hUI
    replace hUM : ∀ j9 : Nat, j9 ∉ ([8, 9] : List Nat) → M16 j9 = M j9 := mw_tr (by decide) whUM hUM
    replace hUsi : ∀ s9 q9 : Nat, q9 ∉ ([6, 7, 8, 9, 10, 11, 21, 22, 31, 32, 33, 34] : List Nat) → si17 s9 q9 = si s9 q9 := xw_tr2 (by decide) whUsi hUsi
    replace hUsa : ∀ s9 q9 : Nat, q9 ∉ ([3] : List Nat) → sa18 s9 q9 = sa s9 q9 := xw_tr2 (by decide) whUsa hUsa
    replace hk0 : I15 0 = I 0 + 1 := (whUI 0 (by decide)).trans hk0
    refine lv_aload_n hx hb dX8_passTick_99 rfl (lv_at hl 1 rfl) ?_
    have hFc := mw_free hD hS hA
    refine va_callv (va_runV (As := []) (rest := []) ⟨hx, hb, hml, hown, hts⟩ (c_x_readLetters l dC dI h a e cI cJ cO cE L14 I15 M16 J n cap fE sd si17 sa18 dl (b + 40)  H.size hX (by omega) ) (cwV 0 hts wc_x_passTick_x_readLetters_320 rfl rfl rfl (by decide +kernel) ⟨Nat.le_of_ble_eq_true rfl, Nat.le_of_ble_eq_true rfl⟩) ⟨fun a9 U g mk q => by obtain ⟨q0, q1, qP, qK, qD, qN⟩ := q; exact ⟨q0, q1, qP, va_K.moved (u := U) (U := U.calling g mk a9) (Vm.Alike.refl U.vm) qK, qD, pw_N.same (u := U) (U := U.calling g mk a9) rfl qN⟩, va_recv hK hP (ci := 9) (q0 := 0) rfl rfl, fun U hU hW => ⟨rfl, by rw [hU], by rw [hU]; exact hP, va_K.moved hW.alike hK, hD.weaken (fun _ _ _ _ => trivial), pw_N.warm hW hN⟩⟩ rfl rfl hl.1 rfl (lv_room (Nat.le_of_ble_eq_true rfl)) dX8_passTick_100 ⟨Nat.le_of_ble_eq_true rfl, Nat.le_of_ble_eq_true rfl⟩) hS (fun q _ h => hFc q h) hFc (fun u t H1 locs ht hvm hw hB hz1 hk1 hS => ?_)
    obtain ⟨L20, I21, si22⟩ := u
    replace hP := hB.1
    rw [ht] at hP
    replace hD : va_D A (xW h a e cI cJ cO cE L20 I21 M16 J n cap fE sd si22 sa18 dl) := hB.2.weaken (fun _ q _ h9 => hFc q.1 h9)
    clear hB
    generalize H1 = H at hP hS ⊢
    replace hP : va_P (dC, dI) vwCl (xW h a e cI cJ cO cE L20 I21 M16 J n cap fE sd si22 sa18 dl) H := hP
    obtain ⟨hwX, whUL, whUI, whUsi, hw⟩ := hw
    replace hX : InvX n cap fE sd dl (b + 40) I21 J si22 := hwX
    replace hUL : ∀ j9 : Nat, j9 ∉ ([0, 1, 5, 6, 7] : List Nat) → L20 j9 = L j9 := mw_tr (by decide) whUL hUL
    replace hUI : ∀ j9 : Nat, j9 ∉ ([0, 2, 4, 12] : List Nat) → I21 j9 = I j9 := mw_tr (by decide) whUI hUI
    replace hUsi : ∀ s9 q9 : Nat, q9 ∉ ([6, 7, 8, 9, 10, 11, 21, 22, 31, 32, 33, 34] : List Nat) → si22 s9 q9 = si s9 q9 := xw_tr2 (by decide) whUsi hUsi
    replace hk0 : I21 0 = I 0 + 1 := (whUI 0 (by decide)).trans hk0
    refine lv_aload_n hx hb dX8_passTick_103 rfl (lv_at hl 1 rfl) ?_
    have hFc := mw_free hD hS hA
    refine va_callv (va_runV (As := []) (rest := []) ⟨hx, hb, hml, hown, hts⟩ (c_x_beginJobs l dC dI h a e cI cJ cO cE L20 I21 M16 J n cap fE sd si22 sa18 dl (b + 40)  H.size hX (by omega) ) (cwV 0 hts wc_x_passTick_x_beginJobs_260 rfl rfl rfl (by decide +kernel) ⟨Nat.le_of_ble_eq_true rfl, Nat.le_of_ble_eq_true rfl⟩) ⟨fun a9 U g mk q => by obtain ⟨q0, q1, qP, qK, qD, qN⟩ := q; exact ⟨q0, q1, qP, va_K.moved (u := U) (U := U.calling g mk a9) (Vm.Alike.refl U.vm) qK, qD, pw_N.same (u := U) (U := U.calling g mk a9) rfl qN⟩, va_recv hK hP (ci := 9) (q0 := 0) rfl rfl, fun U hU hW => ⟨rfl, by rw [hU], by rw [hU]; exact hP, va_K.moved hW.alike hK, hD.weaken (fun _ _ _ _ => trivial), pw_N.warm hW hN⟩⟩ rfl rfl hl.1 rfl (lv_room (Nat.le_of_ble_eq_true rfl)) dX8_passTick_104 ⟨Nat.le_of_ble_eq_true rfl, Nat.le_of_ble_eq_true rfl⟩) hS (fun q _ h => hFc q h) hFc (fun u t H1 locs ht hvm hw hB hz1 hk1 hS => ?_)
    obtain ⟨L24, I25, M26, si27, sa28⟩ := u
    replace hP := hB.1
    rw [ht] at hP
    replace hD : va_D A (xW h a e cI cJ cO cE L24 I25 M26 J n cap fE sd si27 sa28 dl) := hB.2.weaken (fun _ q _ h9 => hFc q.1 h9)
    clear hB
    generalize H1 = H at hP hS ⊢
    replace hP : va_P (dC, dI) vwCl (xW h a e cI cJ cO cE L24 I25 M26 J n cap fE sd si27 sa28 dl) H := hP
    obtain ⟨hwX, whUL, whUI, whUM, whUsi, whUsa, hw⟩ := hw
    replace hX : InvX n cap fE sd dl (b + 40 + 40) I25 J si27 := hwX
    replace hUL : ∀ j9 : Nat, j9 ∉ ([0, 1, 5, 6, 7] : List Nat) → L24 j9 = L j9 := mw_tr (by decide) whUL hUL
    replace hUI : ∀ j9 : Nat, j9 ∉ ([0, 2, 4, 12] : List Nat) → I25 j9 = I j9 := mw_tr (by decide) whUI hUI
    replace hUM : ∀ j9 : Nat, j9 ∉ ([8, 9] : List Nat) → M26 j9 = M j9 := mw_tr (by decide) whUM hUM
    replace hUsi : ∀ s9 q9 : Nat, q9 ∉ ([6, 7, 8, 9, 10, 11, 21, 22, 31, 32, 33, 34] : List Nat) → si27 s9 q9 = si s9 q9 := xw_tr2 (by decide) whUsi hUsi
    replace hUsa : ∀ s9 q9 : Nat, q9 ∉ ([3] : List Nat) → sa28 s9 q9 = sa s9 q9 := xw_tr2 (by decide) whUsa hUsa
    replace hk0 : I25 0 = I 0 + 1 := (whUI 0 (by decide)).trans hk0
    rw [hQ]
    exact W.vret hx hb hr (fun t ht hW => ⟨⟨(L24, I25, M26, si27, sa28), rfl, ⟨hX.mono (by omega), hUL, hUI, hUM, hUsi, hUsa, hk0⟩, by rw [ht]; exact hP, hD⟩, hS.F ht⟩) hS.2.2 dX8_passTick_107
  · refine lv_iconst (v := 0) hx hb dX8_passTick_42 (by decide) ?_
    refine lv_istore_n (lv' := [(3, .int 0), (1, .long x10), (0, .ref h)]) hx hb dX8_passTick_43 rfl hl (by decide) rfl (fun ls hl => ?_)
    have lp32 : ∀ (fu30 i29 : Nat)  (L33 : Nat → Int64) (I34 : Nat → Int32) (M35 : Nat → Nat → Int64) (si36 : Nat → Nat → Int32) (sa37 : Nat → Nat → Nat → Int32) (H : Heap) (locs : List Loc) (ls : Array Slot), n < i29 + fu30 → i29 ≤ n → InvX n cap fE sd dl (b + 1 * i29) I34 J si36 → (∀ j9 : Nat, j9 ∉ ([0, 1, 5, 6, 7] : List Nat) → L33 j9 = L j9) → (∀ j9 : Nat, j9 ∉ ([0, 2, 4, 12] : List Nat) → I34 j9 = I j9) → (∀ j9 : Nat, j9 ∉ ([8, 9] : List Nat) → M35 j9 = M j9) → (∀ s9 q9 : Nat, q9 ∉ ([6, 7, 8, 9, 10, 11, 21, 22, 31, 32, 33, 34] : List Nat) → si36 s9 q9 = si s9 q9) → (∀ s9 q9 : Nat, q9 ∉ ([3] : List Nat) → sa37 s9 q9 = sa s9 q9) → I34 0 = I 0 + 1 → va_P (dC, dI) vwCl (xW h a e cI cJ cO cE L33 I34 M35 J n cap fE sd si36 sa37 dl) H → va_D A (xW h a e cI cJ cO cE L33 I34 M35 J n cap fE sd si36 sa37 dl) → va_S A s.heap H locs → lv_has ls 4 [(3, .int (nI i29)), (1, .long x10), (0, .ref h)] → W p l e9 (headSpec wq_x_passTick rm_x_passTick).room s m ([.ref h] : List Value).toArray below meth c H locs 0 0 Q0 (F0 m 44 ls []) := by
      intro fu30
      induction fu30 with
      | zero =>
        intro i29  L33 I34 M35 si36 sa37 H locs ls hf hi
        exact absurd hf (by omega)
      | succ fu30 ih31 =>
        intro i29  L33 I34 M35 si36 sa37 H locs ls hfi29 hii29 hX hUL hUI hUM hUsi hUsa hk0_i29 hP hD hS hl
        have hk0 := hk0_i29
        refine lv_iload_n hx hb dX8_passTick_44 rfl (lv_at hl 0 rfl) ?_
        refine lv_aload_n hx hb dX8_passTick_45 rfl (lv_at hl 2 rfl) ?_
        refine va_get (D := (dC, dI)) (ci := 9) (v := .ref (a 0)) (C := RX8) (T := TX8) (N := 14) hx hb hts in_x_passTick_X8 hown hK hP 0 rfl rfl 0 (by decide) (hts (.fieldLink RX8 10 "ServiceTree" "services" "Ljava/util/ArrayList;") (by decide +kernel)) (fun _ h9 => h9) rfl dX8_passTick_46 ?_
        have hFc := mw_free hD hS hA
        refine va_calli (va_runV (As := []) (rest := [.int (nI i29)]) ⟨hx, hb, hml, hown, hts⟩ (c_x_size l dC dI h a e cI cJ cO cE L33 I34 M35 J n cap fE sd si36 sa37 dl (b + 1 * i29)  H.size hX (by omega) ) (cwV 0 hts wc_x_passTick_x_size_61 rfl rfl rfl (by decide +kernel) ⟨Nat.le_of_ble_eq_true rfl, Nat.le_of_ble_eq_true rfl⟩) ⟨fun a9 U g mk q => by obtain ⟨q0, q1, qP, qK, qD, qN⟩ := q; exact ⟨q0, q1, qP, va_K.moved (u := U) (U := U.calling g mk a9) (Vm.Alike.refl U.vm) qK, qD, pw_N.same (u := U) (U := U.calling g mk a9) rfl qN⟩, va_recv hK hP (ci := 0) (q0 := 1) rfl rfl, fun U hU hW => ⟨rfl, by rw [hU], by rw [hU]; exact hP, va_K.moved hW.alike hK, hD.weaken (fun _ _ _ _ => trivial), pw_N.warm hW hN⟩⟩ rfl rfl hl.1 rfl (lv_room (Nat.le_of_ble_eq_true rfl)) dX8_passTick_49 ⟨Nat.le_of_ble_eq_true rfl, Nat.le_of_ble_eq_true rfl⟩) hS (fun q _ h => hFc q h) hFc (fun r38 u t H1 locs ht hvm hw hB hz1 hk1 hS => ?_)
        replace hP := hB.1
        rw [ht] at hP
        replace hD : va_D A (xW h a e cI cJ cO cE L33 I34 M35 J n cap fE sd si36 sa37 dl) := hB.2.weaken (fun _ q _ h9 => hFc q.1 h9)
        clear hB
        generalize H1 = H at hP hS ⊢
        replace hP : va_P (dC, dI) vwCl (xW h a e cI cJ cO cE L33 I34 M35 J n cap fE sd si36 sa37 dl) H := hP
        obtain rfl : r38 = nI n := hw
        refine lv_icmp_ge (tgt := 95) hx hb dX8_passTick_52 (by decide) (fun c39 => ?_) (fun c39 => ?_)
        · replace c39 : n ≤ i29 := (nI_leI (a := n) (b := i29) (by omega) (by omega)).mp c39
          refine lv_aload_n hx hb dX8_passTick_95 rfl (lv_at hl 2 rfl) ?_
          have hFc := mw_free hD hS hA
          refine va_callv (va_runV (As := []) (rest := []) ⟨hx, hb, hml, hown, hts⟩ (c_x_stopTheLacking l dC dI h a e cI cJ cO cE L33 I34 M35 J n cap fE sd si36 sa37 dl (b + 1 * i29)  H.size hX (by omega) ) (cwV 0 hts wc_x_passTick_x_stopTheLacking_317 rfl rfl rfl (by decide +kernel) ⟨Nat.le_of_ble_eq_true rfl, Nat.le_of_ble_eq_true rfl⟩) ⟨fun a9 U g mk q => by obtain ⟨q0, q1, qP, qK, qD, qN⟩ := q; exact ⟨q0, q1, qP, va_K.moved (u := U) (U := U.calling g mk a9) (Vm.Alike.refl U.vm) qK, qD, pw_N.same (u := U) (U := U.calling g mk a9) rfl qN⟩, va_recv hK hP (ci := 9) (q0 := 0) rfl rfl, fun U hU hW => ⟨rfl, by rw [hU], by rw [hU]; exact hP, va_K.moved hW.alike hK, hD.weaken (fun _ _ _ _ => trivial), pw_N.warm hW hN⟩⟩ rfl rfl hl.1 rfl (lv_room (Nat.le_of_ble_eq_true rfl)) dX8_passTick_96 ⟨Nat.le_of_ble_eq_true rfl, Nat.le_of_ble_eq_true rfl⟩) hS (fun q _ h => hFc q h) hFc (fun u t H1 locs ht hvm hw hB hz1 hk1 hS => ?_)
          obtain ⟨L41, I42, M43, si44, sa45⟩ := u
          replace hP := hB.1
          rw [ht] at hP
          replace hD : va_D A (xW h a e cI cJ cO cE L41 I42 M43 J n cap fE sd si44 sa45 dl) := hB.2.weaken (fun _ q _ h9 => hFc q.1 h9)
          clear hB
          generalize H1 = H at hP hS ⊢
          replace hP : va_P (dC, dI) vwCl (xW h a e cI cJ cO cE L41 I42 M43 J n cap fE sd si44 sa45 dl) H := hP
          obtain ⟨hwX, whUL, whUI, whUM, whUsi, whUsa, hw⟩ := hw
          replace hX : InvX n cap fE sd dl (b + 1 * i29 + 40) I42 J si44 := hwX
          replace hUL : ∀ j9 : Nat, j9 ∉ ([0, 1, 5, 6, 7] : List Nat) → L41 j9 = L j9 := mw_tr (by decide) whUL hUL
          replace hUI : ∀ j9 : Nat, j9 ∉ ([0, 2, 4, 12] : List Nat) → I42 j9 = I j9 := mw_tr (by decide) whUI hUI
          replace hUM : ∀ j9 : Nat, j9 ∉ ([8, 9] : List Nat) → M43 j9 = M j9 := mw_tr (by decide) whUM hUM
          replace hUsi : ∀ s9 q9 : Nat, q9 ∉ ([6, 7, 8, 9, 10, 11, 21, 22, 31, 32, 33, 34] : List Nat) → si44 s9 q9 = si s9 q9 := xw_tr2 (by decide) whUsi hUsi
          replace hUsa : ∀ s9 q9 : Nat, q9 ∉ ([3] : List Nat) → sa45 s9 q9 = sa s9 q9 := xw_tr2 (by decide) whUsa hUsa
          replace hk0 : I42 0 = I 0 + 1 := (whUI 0 (by decide)).trans hk0
          refine lv_aload_n hx hb dX8_passTick_99 rfl (lv_at hl 2 rfl) ?_
          have hFc := mw_free hD hS hA
          refine va_callv (va_runV (As := []) (rest := []) ⟨hx, hb, hml, hown, hts⟩ (c_x_readLetters l dC dI h a e cI cJ cO cE L41 I42 M43 J n cap fE sd si44 sa45 dl (b + 1 * i29 + 40)  H.size hX (by omega) ) (cwV 0 hts wc_x_passTick_x_readLetters_320 rfl rfl rfl (by decide +kernel) ⟨Nat.le_of_ble_eq_true rfl, Nat.le_of_ble_eq_true rfl⟩) ⟨fun a9 U g mk q => by obtain ⟨q0, q1, qP, qK, qD, qN⟩ := q; exact ⟨q0, q1, qP, va_K.moved (u := U) (U := U.calling g mk a9) (Vm.Alike.refl U.vm) qK, qD, pw_N.same (u := U) (U := U.calling g mk a9) rfl qN⟩, va_recv hK hP (ci := 9) (q0 := 0) rfl rfl, fun U hU hW => ⟨rfl, by rw [hU], by rw [hU]; exact hP, va_K.moved hW.alike hK, hD.weaken (fun _ _ _ _ => trivial), pw_N.warm hW hN⟩⟩ rfl rfl hl.1 rfl (lv_room (Nat.le_of_ble_eq_true rfl)) dX8_passTick_100 ⟨Nat.le_of_ble_eq_true rfl, Nat.le_of_ble_eq_true rfl⟩) hS (fun q _ h => hFc q h) hFc (fun u t H1 locs ht hvm hw hB hz1 hk1 hS => ?_)
          obtain ⟨L47, I48, si49⟩ := u
          replace hP := hB.1
          rw [ht] at hP
          replace hD : va_D A (xW h a e cI cJ cO cE L47 I48 M43 J n cap fE sd si49 sa45 dl) := hB.2.weaken (fun _ q _ h9 => hFc q.1 h9)
          clear hB
          generalize H1 = H at hP hS ⊢
          replace hP : va_P (dC, dI) vwCl (xW h a e cI cJ cO cE L47 I48 M43 J n cap fE sd si49 sa45 dl) H := hP
          obtain ⟨hwX, whUL, whUI, whUsi, hw⟩ := hw
          replace hX : InvX n cap fE sd dl (b + 1 * i29 + 40) I48 J si49 := hwX
          replace hUL : ∀ j9 : Nat, j9 ∉ ([0, 1, 5, 6, 7] : List Nat) → L47 j9 = L j9 := mw_tr (by decide) whUL hUL
          replace hUI : ∀ j9 : Nat, j9 ∉ ([0, 2, 4, 12] : List Nat) → I48 j9 = I j9 := mw_tr (by decide) whUI hUI
          replace hUsi : ∀ s9 q9 : Nat, q9 ∉ ([6, 7, 8, 9, 10, 11, 21, 22, 31, 32, 33, 34] : List Nat) → si49 s9 q9 = si s9 q9 := xw_tr2 (by decide) whUsi hUsi
          replace hk0 : I48 0 = I 0 + 1 := (whUI 0 (by decide)).trans hk0
          refine lv_aload_n hx hb dX8_passTick_103 rfl (lv_at hl 2 rfl) ?_
          have hFc := mw_free hD hS hA
          refine va_callv (va_runV (As := []) (rest := []) ⟨hx, hb, hml, hown, hts⟩ (c_x_beginJobs l dC dI h a e cI cJ cO cE L47 I48 M43 J n cap fE sd si49 sa45 dl (b + 1 * i29 + 40)  H.size hX (by omega) ) (cwV 0 hts wc_x_passTick_x_beginJobs_260 rfl rfl rfl (by decide +kernel) ⟨Nat.le_of_ble_eq_true rfl, Nat.le_of_ble_eq_true rfl⟩) ⟨fun a9 U g mk q => by obtain ⟨q0, q1, qP, qK, qD, qN⟩ := q; exact ⟨q0, q1, qP, va_K.moved (u := U) (U := U.calling g mk a9) (Vm.Alike.refl U.vm) qK, qD, pw_N.same (u := U) (U := U.calling g mk a9) rfl qN⟩, va_recv hK hP (ci := 9) (q0 := 0) rfl rfl, fun U hU hW => ⟨rfl, by rw [hU], by rw [hU]; exact hP, va_K.moved hW.alike hK, hD.weaken (fun _ _ _ _ => trivial), pw_N.warm hW hN⟩⟩ rfl rfl hl.1 rfl (lv_room (Nat.le_of_ble_eq_true rfl)) dX8_passTick_104 ⟨Nat.le_of_ble_eq_true rfl, Nat.le_of_ble_eq_true rfl⟩) hS (fun q _ h => hFc q h) hFc (fun u t H1 locs ht hvm hw hB hz1 hk1 hS => ?_)
          obtain ⟨L51, I52, M53, si54, sa55⟩ := u
          replace hP := hB.1
          rw [ht] at hP
          replace hD : va_D A (xW h a e cI cJ cO cE L51 I52 M53 J n cap fE sd si54 sa55 dl) := hB.2.weaken (fun _ q _ h9 => hFc q.1 h9)
          clear hB
          generalize H1 = H at hP hS ⊢
          replace hP : va_P (dC, dI) vwCl (xW h a e cI cJ cO cE L51 I52 M53 J n cap fE sd si54 sa55 dl) H := hP
          obtain ⟨hwX, whUL, whUI, whUM, whUsi, whUsa, hw⟩ := hw
          replace hX : InvX n cap fE sd dl (b + 1 * i29 + 40 + 40) I52 J si54 := hwX
          replace hUL : ∀ j9 : Nat, j9 ∉ ([0, 1, 5, 6, 7] : List Nat) → L51 j9 = L j9 := mw_tr (by decide) whUL hUL
          replace hUI : ∀ j9 : Nat, j9 ∉ ([0, 2, 4, 12] : List Nat) → I52 j9 = I j9 := mw_tr (by decide) whUI hUI
          replace hUM : ∀ j9 : Nat, j9 ∉ ([8, 9] : List Nat) → M53 j9 = M j9 := mw_tr (by decide) whUM hUM
          replace hUsi : ∀ s9 q9 : Nat, q9 ∉ ([6, 7, 8, 9, 10, 11, 21, 22, 31, 32, 33, 34] : List Nat) → si54 s9 q9 = si s9 q9 := xw_tr2 (by decide) whUsi hUsi
          replace hUsa : ∀ s9 q9 : Nat, q9 ∉ ([3] : List Nat) → sa55 s9 q9 = sa s9 q9 := xw_tr2 (by decide) whUsa hUsa
          replace hk0 : I52 0 = I 0 + 1 := (whUI 0 (by decide)).trans hk0
          rw [hQ]
          exact W.vret hx hb hr (fun t ht hW => ⟨⟨(L51, I52, M53, si54, sa55), rfl, ⟨hX.mono (by omega), hUL, hUI, hUM, hUsi, hUsa, hk0⟩, by rw [ht]; exact hP, hD⟩, hS.F ht⟩) hS.2.2 dX8_passTick_107
        · replace c39 : ¬ (n ≤ i29) := fun q9 => c39 ((nI_leI (a := n) (b := i29) (by omega) (by omega)).mpr q9)
          refine lv_lload_n hx hb dX8_passTick_55 rfl (lv_at hl 1 rfl) ?_
          refine lv_iload_n hx hb dX8_passTick_56 rfl (lv_at hl 0 rfl) ?_
          have hFc := mw_free hD hS hA
          refine va_calli (va_runS (As := [.long x10, .int (nI i29)]) (rest := []) ⟨hx, hb, hml, hown, hts⟩ (c_x_holds l dC dI h a e cI cJ cO cE L33 I34 M35 J n cap fE sd si36 sa37 dl (b + 1 * i29) x10 (nI i29) H.size hX (by omega) ) (va_cwS 2 hts wc_x_passTick_x_holds_114 rfl rfl rfl (by decide +kernel) ⟨Nat.le_of_ble_eq_true rfl, Nat.le_of_ble_eq_true rfl⟩) ⟨fun a9 U g mk q => by obtain ⟨q0, q1, qP, qK, qD, qN⟩ := q; exact ⟨q0, q1, qP, va_K.moved (u := U) (U := U.calling g mk a9) (Vm.Alike.refl U.vm) qK, qD, pw_N.same (u := U) (U := U.calling g mk a9) rfl qN⟩, fun U hU hW => ⟨rfl, by rw [hU], by rw [hU]; exact hP, va_K.moved hW.alike hK, hD.weaken (fun _ _ _ _ => trivial), pw_N.warm hW hN⟩⟩ rfl rfl hl.1 rfl (lv_room (Nat.le_of_ble_eq_true rfl)) dX8_passTick_57 ⟨Nat.le_of_ble_eq_true rfl, Nat.le_of_ble_eq_true rfl⟩) hS (fun q _ h => hFc q h) hFc (fun r56 u t H1 locs ht hvm hw hB hz1 hk1 hS => ?_)
          replace hP := hB.1
          rw [ht] at hP
          replace hD : va_D A (xW h a e cI cJ cO cE L33 I34 M35 J n cap fE sd si36 sa37 dl) := hB.2.weaken (fun _ q _ h9 => hFc q.1 h9)
          clear hB
          generalize H1 = H at hP hS ⊢
          replace hP : va_P (dC, dI) vwCl (xW h a e cI cJ cO cE L33 I34 M35 J n cap fE sd si36 sa37 dl) H := hP
          have br56 := hw
          refine lv_if_eq (tgt := 89) hx hb dX8_passTick_60 (by decide) (fun c57 => ?_) (fun c57 => ?_)
          · refine lv_iinc (v := (nI (i29 + 1))) (lv' := [(3, .int (nI (i29 + 1))), (1, .long x10), (0, .ref h)]) hx hb dX8_passTick_89 hl (k := 0) rfl (nI_add i29 1) (by decide) rfl (fun ls hl => ?_)
            refine lv_goto (tgt := 44) hx hb dX8_passTick_92 (by decide) ?_
            exact ih31 (i29 + 1)  L33 I34 M35 si36 sa37 _ _ _ (by omega) (by omega) (hX.mono (by omega)) hUL hUI hUM hUsi hUsa hk0 hP hD hS (lv_sub hl [0, 1, 2] rfl)
          · refine lv_aload_n hx hb dX8_passTick_63 rfl (lv_at hl 2 rfl) ?_
            refine va_get (D := (dC, dI)) (ci := 9) (v := .ref (a 0)) (C := RX8) (T := TX8) (N := 14) hx hb hts in_x_passTick_X8 hown hK hP 0 rfl rfl 0 (by decide) (hts (.fieldLink RX8 10 "ServiceTree" "services" "Ljava/util/ArrayList;") (by decide +kernel)) (fun _ h9 => h9) rfl dX8_passTick_64 ?_
            refine lv_iload_n hx hb dX8_passTick_67 rfl (lv_at hl 0 rfl) ?_
            have hFc := mw_free hD hS hA
            refine va_callr (va_runV (As := [.int (nI i29)]) (rest := []) ⟨hx, hb, hml, hown, hts⟩ (c_x_get l dC dI h a e cI cJ cO cE L33 I34 M35 J n cap fE sd si36 sa37 dl (b + 1 * i29) i29 H.size hX (by omega) (by omega)) (cwV 1 hts wc_x_passTick_x_get_86 rfl rfl rfl (by decide +kernel) ⟨Nat.le_of_ble_eq_true rfl, Nat.le_of_ble_eq_true rfl⟩) ⟨fun a9 U g mk q => by obtain ⟨q0, q1, qP, qK, qD, qN⟩ := q; exact ⟨q0, q1, qP, va_K.moved (u := U) (U := U.calling g mk a9) (Vm.Alike.refl U.vm) qK, qD, pw_N.same (u := U) (U := U.calling g mk a9) rfl qN⟩, va_recv hK hP (ci := 0) (q0 := 1) rfl rfl, fun U hU hW => ⟨rfl, by rw [hU], by rw [hU]; exact hP, va_K.moved hW.alike hK, hD.weaken (fun _ _ _ _ => trivial), pw_N.warm hW hN⟩⟩ rfl rfl hl.1 rfl (lv_room (Nat.le_of_ble_eq_true rfl)) dX8_passTick_68 ⟨Nat.le_of_ble_eq_true rfl, Nat.le_of_ble_eq_true rfl⟩) hS (fun q _ h => hFc q h) hFc (fun u r58 t H1 locs ht hvm hw hB hz1 hk1 hS => ?_)
            obtain ⟨hra, hB⟩ := hB
            replace hP := hB.1
            rw [ht] at hP
            replace hD : va_D A (xW h a e cI cJ cO cE L33 I34 M35 J n cap fE sd si36 sa37 dl) := hB.2.weaken (fun _ q _ h9 => hFc q.1 h9)
            clear hB
            generalize H1 = H at hP hS ⊢
            replace hP : va_P (dC, dI) vwCl (xW h a e cI cJ cO cE L33 I34 M35 J n cap fE sd si36 sa37 dl) H := hP
            subst hra
            refine va_castS hx hb hown (hts (.classLink RX8 65 RX7) (by decide +kernel)) (hK.1 8 _ rfl).2 (va_recv hK hP (ci := 8) (q0 := (22 + (6 * i29 + 0))) rfl (xAt_0 h a e cI cJ cO cE L33 I34 M35 J n cap fE sd si36 sa37 dl (s := i29) (by omega))) dX8_passTick_71 ?_
            refine lv_aload_n hx hb dX8_passTick_74 rfl (lv_at hl 2 rfl) ?_
            refine va_get (D := (dC, dI)) (ci := 9) (v := .int (I34 0)) (C := RX8) (T := TX8) (N := 14) hx hb hts in_x_passTick_X8 hown hK hP 0 rfl rfl 9 (by decide) (hts (.fieldLink RX8 67 "ServiceTree" "now" "I") (by decide +kernel)) (fun _ h9 => h9) rfl dX8_passTick_75 ?_
            refine lv_topi (fun x59 ex59 => ?_)
            have hFc := mw_free hD hS hA
            refine va_calli (va_runV (As := [.int x59]) (rest := []) ⟨hx, hb, hml, hown, hts⟩ (c_x_isDue l dC dI h a e cI cJ cO cE L33 I34 M35 J n cap fE sd si36 sa37 dl (b + 1 * i29) i29 x59 H.size hX (by omega) (by omega)) (cwV 1 hts wc_x_passTick_x_isDue_283 rfl rfl rfl (by decide +kernel) ⟨Nat.le_of_ble_eq_true rfl, Nat.le_of_ble_eq_true rfl⟩) ⟨fun a9 U g mk q => by obtain ⟨q0, q1, qP, qK, qD, qN⟩ := q; exact ⟨q0, q1, qP, va_K.moved (u := U) (U := U.calling g mk a9) (Vm.Alike.refl U.vm) qK, qD, pw_N.same (u := U) (U := U.calling g mk a9) rfl qN⟩, va_recv hK hP (ci := 8) (q0 := (22 + (6 * i29 + 0))) rfl (xAt_0 h a e cI cJ cO cE L33 I34 M35 J n cap fE sd si36 sa37 dl (s := i29) (by omega)), fun U hU hW => ⟨rfl, by rw [hU], by rw [hU]; exact hP, va_K.moved hW.alike hK, hD.weaken (fun _ _ _ _ => trivial), pw_N.warm hW hN⟩⟩ rfl rfl hl.1 rfl (lv_room (Nat.le_of_ble_eq_true rfl)) dX8_passTick_78 ⟨Nat.le_of_ble_eq_true rfl, Nat.le_of_ble_eq_true rfl⟩) hS (fun q _ h => hFc q h) hFc (fun r60 u t H1 locs ht hvm hw hB hz1 hk1 hS => ?_)
            replace hP := hB.1
            rw [ht] at hP
            replace hD : va_D A (xW h a e cI cJ cO cE L33 I34 M35 J n cap fE sd si36 sa37 dl) := hB.2.weaken (fun _ q _ h9 => hFc q.1 h9)
            clear hB
            generalize H1 = H at hP hS ⊢
            replace hP : va_P (dC, dI) vwCl (xW h a e cI cJ cO cE L33 I34 M35 J n cap fE sd si36 sa37 dl) H := hP
            refine lv_if_eq (tgt := 89) hx hb dX8_passTick_81 (by decide) (fun c61 => ?_) (fun c61 => ?_)
            · refine lv_iinc (v := (nI (i29 + 1))) (lv' := [(3, .int (nI (i29 + 1))), (1, .long x10), (0, .ref h)]) hx hb dX8_passTick_89 hl (k := 0) rfl (nI_add i29 1) (by decide) rfl (fun ls hl => ?_)
              refine lv_goto (tgt := 44) hx hb dX8_passTick_92 (by decide) ?_
              exact ih31 (i29 + 1)  L33 I34 M35 si36 sa37 _ _ _ (by omega) (by omega) (hX.mono (by omega)) hUL hUI hUM hUsi hUsa hk0 hP hD hS (lv_sub hl [0, 1, 2] rfl)
            · refine lv_aload_n hx hb dX8_passTick_84 rfl (lv_at hl 2 rfl) ?_
              refine lv_iload_n hx hb dX8_passTick_85 rfl (lv_at hl 0 rfl) ?_
              have hFc := mw_free hD hS hA
              refine va_callv (va_runV (As := [.int (nI i29)]) (rest := []) ⟨hx, hb, hml, hown, hts⟩ (c_x_passDueTime l dC dI h a e cI cJ cO cE L33 I34 M35 J n cap fE sd si36 sa37 dl (b + 1 * i29) i29 H.size hX (by omega) (by omega)) (cwV 1 hts wc_x_passTick_x_passDueTime_314 rfl rfl rfl (by decide +kernel) ⟨Nat.le_of_ble_eq_true rfl, Nat.le_of_ble_eq_true rfl⟩) ⟨fun a9 U g mk q => by obtain ⟨q0, q1, qP, qK, qD, qN⟩ := q; exact ⟨q0, q1, qP, va_K.moved (u := U) (U := U.calling g mk a9) (Vm.Alike.refl U.vm) qK, qD, pw_N.same (u := U) (U := U.calling g mk a9) rfl qN⟩, va_recv hK hP (ci := 9) (q0 := 0) rfl rfl, fun U hU hW => ⟨rfl, by rw [hU], by rw [hU]; exact hP, va_K.moved hW.alike hK, hD.weaken (fun _ _ _ _ => trivial), pw_N.warm hW hN⟩⟩ rfl rfl hl.1 rfl (lv_room (Nat.le_of_ble_eq_true rfl)) dX8_passTick_86 ⟨Nat.le_of_ble_eq_true rfl, Nat.le_of_ble_eq_true rfl⟩) hS (fun q _ h => hFc q h) hFc (fun u t H1 locs ht hvm hw hB hz1 hk1 hS => ?_)
              obtain ⟨L63, I64, M65, si66, sa67⟩ := u
              replace hP := hB.1
              rw [ht] at hP
              replace hD : va_D A (xW h a e cI cJ cO cE L63 I64 M65 J n cap fE sd si66 sa67 dl) := hB.2.weaken (fun _ q _ h9 => hFc q.1 h9)
              clear hB
              generalize H1 = H at hP hS ⊢
              replace hP : va_P (dC, dI) vwCl (xW h a e cI cJ cO cE L63 I64 M65 J n cap fE sd si66 sa67 dl) H := hP
              obtain ⟨hwX, whUL, whUI, whUM, whUsi, whUsa, hw⟩ := hw
              replace hX : InvX n cap fE sd dl (b + 1 * i29 + 1) I64 J si66 := hwX
              replace hUL : ∀ j9 : Nat, j9 ∉ ([0, 1, 5, 6, 7] : List Nat) → L63 j9 = L j9 := mw_tr (by decide) whUL hUL
              replace hUI : ∀ j9 : Nat, j9 ∉ ([0, 2, 4, 12] : List Nat) → I64 j9 = I j9 := mw_tr (by decide) whUI hUI
              replace hUM : ∀ j9 : Nat, j9 ∉ ([8, 9] : List Nat) → M65 j9 = M j9 := mw_tr (by decide) whUM hUM
              replace hUsi : ∀ s9 q9 : Nat, q9 ∉ ([6, 7, 8, 9, 10, 11, 21, 22, 31, 32, 33, 34] : List Nat) → si66 s9 q9 = si s9 q9 := xw_tr2 (by decide) whUsi hUsi
              replace hUsa : ∀ s9 q9 : Nat, q9 ∉ ([3] : List Nat) → sa67 s9 q9 = sa s9 q9 := xw_tr2 (by decide) whUsa hUsa
              replace hk0 : I64 0 = I 0 + 1 := (whUI 0 (by decide)).trans hk0
              refine lv_iinc (v := (nI (i29 + 1))) (lv' := [(3, .int (nI (i29 + 1))), (1, .long x10), (0, .ref h)]) hx hb dX8_passTick_89 hl (k := 0) rfl (nI_add i29 1) (by decide) rfl (fun ls hl => ?_)
              refine lv_goto (tgt := 44) hx hb dX8_passTick_92 (by decide) ?_
              exact ih31 (i29 + 1)  L63 I64 M65 si66 sa67 _ _ _ (by omega) (by omega) (hX.mono (by omega)) hUL hUI hUM hUsi hUsa hk0 hP hD hS (lv_sub hl [0, 1, 2] rfl)
    exact lp32 (n + 1) 0  L I3 M si sa _ _ _ (by omega) (by omega) (hX.mono (by omega)) hUL hUI hUM hUsi hUsa hk0 hP hD hS hl
