theorem dX5_union_0 : decode cX5_union 0 = .ok (.lconst 0, 1) := by decide +kernel
theorem dX5_union_1 : decode cX5_union 1 = .ok (.lstore_n 3, 1) := by decide +kernel
theorem dX5_union_2 : decode cX5_union 2 = .ok (.iconst 0, 1) := by decide +kernel
theorem dX5_union_3 : decode cX5_union 3 = .ok (.istore 5, 2) := by decide +kernel
theorem dX5_union_5 : decode cX5_union 5 = .ok (.iload 5, 2) := by decide +kernel
theorem dX5_union_7 : decode cX5_union 7 = .ok (.aload_n 0, 1) := by decide +kernel
theorem dX5_union_8 : decode cX5_union 8 = .ok (.arraylength, 1) := by decide +kernel
theorem dX5_union_9 : decode cX5_union 9 = .ok (.if_icmp .ge 25, 3) := by decide +kernel
theorem dX5_union_12 : decode cX5_union 12 = .ok (.lload_n 1, 1) := by decide +kernel
theorem dX5_union_13 : decode cX5_union 13 = .ok (.iload 5, 2) := by decide +kernel
theorem dX5_union_15 : decode cX5_union 15 = .ok (.invokestatic 19, 3) := by decide +kernel
theorem dX5_union_18 : decode cX5_union 18 = .ok (.ifCond .eq 10, 3) := by decide +kernel
theorem dX5_union_28 : decode cX5_union 28 = .ok (.iinc 5 1, 3) := by decide +kernel
theorem dX5_union_31 : decode cX5_union 31 = .ok (.goto (-26), 3) := by decide +kernel
theorem dX5_union_34 : decode cX5_union 34 = .ok (.lload_n 3, 1) := by decide +kernel
theorem dX5_union_35 : decode cX5_union 35 = .ok (.lreturn, 1) := by decide +kernel
theorem dX5_clash_0 : decode cX5_clash 0 = .ok (.aload_n 0, 1) := by decide +kernel
theorem dX5_clash_1 : decode cX5_clash 1 = .ok (.getfield 11, 3) := by decide +kernel
theorem dX5_clash_4 : decode cX5_clash 4 = .ok (.iconst 3, 1) := by decide +kernel
theorem dX5_clash_5 : decode cX5_clash 5 = .ok (.aaload, 1) := by decide +kernel
theorem dX5_clash_6 : decode cX5_clash 6 = .ok (.lload_n 1, 1) := by decide +kernel
theorem dX5_clash_7 : decode cX5_clash 7 = .ok (.invokestatic 40, 3) := by decide +kernel
theorem dX5_clash_10 : decode cX5_clash 10 = .ok (.lload_n 1, 1) := by decide +kernel
theorem dX5_clash_11 : decode cX5_clash 11 = .ok (.land, 1) := by decide +kernel
theorem dX5_clash_12 : decode cX5_clash 12 = .ok (.lconst 0, 1) := by decide +kernel
theorem dX5_clash_13 : decode cX5_clash 13 = .ok (.lcmp, 1) := by decide +kernel
theorem dX5_clash_14 : decode cX5_clash 14 = .ok (.ifCond .eq 7, 3) := by decide +kernel
theorem dX5_clash_21 : decode cX5_clash 21 = .ok (.iconst 0, 1) := by decide +kernel
theorem dX5_clash_22 : decode cX5_clash 22 = .ok (.ireturn, 1) := by decide +kernel
theorem dX8_tick_0 : decode cX8_tick 0 = .ok (.iload_n 1, 1) := by decide +kernel
theorem dX8_tick_1 : decode cX8_tick 1 = .ok (.iconst 1, 1) := by decide +kernel
theorem dX8_tick_2 : decode cX8_tick 2 = .ok (.sipush 1000, 3) := by decide +kernel
theorem dX8_tick_5 : decode cX8_tick 5 = .ok (.invokestatic 57, 3) := by decide +kernel
theorem dX8_tick_8 : decode cX8_tick 8 = .ok (.ifCond .ne 5, 3) := by decide +kernel
theorem dX8_tick_11 : decode cX8_tick 11 = .ok (.iconst (-1), 1) := by decide +kernel
theorem dX8_tick_12 : decode cX8_tick 12 = .ok (.ireturn, 1) := by decide +kernel
theorem dX8_tick_13 : decode cX8_tick 13 = .ok (.iconst 0, 1) := by decide +kernel
theorem dX8_tick_14 : decode cX8_tick 14 = .ok (.istore_n 2, 1) := by decide +kernel
theorem dX8_tick_15 : decode cX8_tick 15 = .ok (.iload_n 2, 1) := by decide +kernel
theorem dX8_tick_16 : decode cX8_tick 16 = .ok (.iload_n 1, 1) := by decide +kernel
theorem dX8_tick_17 : decode cX8_tick 17 = .ok (.if_icmp .ge 13, 3) := by decide +kernel
theorem dX8_tick_20 : decode cX8_tick 20 = .ok (.aload_n 0, 1) := by decide +kernel
theorem dX8_tick_21 : decode cX8_tick 21 = .ok (.invokevirtual 139, 3) := by decide +kernel
theorem dX8_tick_24 : decode cX8_tick 24 = .ok (.iinc 2 1, 3) := by decide +kernel
theorem dX8_tick_27 : decode cX8_tick 27 = .ok (.goto (-12), 3) := by decide +kernel
theorem dX8_tick_30 : decode cX8_tick 30 = .ok (.aload_n 0, 1) := by decide +kernel
theorem dX8_tick_31 : decode cX8_tick 31 = .ok (.getfield 67, 3) := by decide +kernel
theorem dX8_tick_34 : decode cX8_tick 34 = .ok (.ireturn, 1) := by decide +kernel
theorem dX8_check_0 : decode cX8_check 0 = .ok (.iconst 0, 1) := by decide +kernel
theorem dX8_check_1 : decode cX8_check 1 = .ok (.istore_n 1, 1) := by decide +kernel
theorem dX8_check_2 : decode cX8_check 2 = .ok (.aload_n 0, 1) := by decide +kernel
theorem dX8_check_3 : decode cX8_check 3 = .ok (.invokevirtual 221, 3) := by decide +kernel
theorem dX8_check_6 : decode cX8_check 6 = .ok (.ifCond .lt 6, 3) := by decide +kernel
theorem dX8_check_12 : decode cX8_check 12 = .ok (.aload_n 0, 1) := by decide +kernel
theorem dX8_check_13 : decode cX8_check 13 = .ok (.getfield 19, 3) := by decide +kernel
theorem dX8_check_16 : decode cX8_check 16 = .ok (.aload_n 0, 1) := by decide +kernel
theorem dX8_check_17 : decode cX8_check 17 = .ok (.invokevirtual 224, 3) := by decide +kernel
theorem dX8_check_20 : decode cX8_check 20 = .ok (.invokevirtual 227, 3) := by decide +kernel
theorem dX8_check_23 : decode cX8_check 23 = .ok (.ifCond .eq 6, 3) := by decide +kernel
theorem dX8_check_29 : decode cX8_check 29 = .ok (.iload_n 1, 1) := by decide +kernel
theorem dX8_check_30 : decode cX8_check 30 = .ok (.ireturn, 1) := by decide +kernel
theorem dX8_holds_0 : decode cX8_holds 0 = .ok (.lload_n 0, 1) := by decide +kernel
theorem dX8_holds_1 : decode cX8_holds 1 = .ok (.iload_n 2, 1) := by decide +kernel
theorem dX8_holds_2 : decode cX8_holds 2 = .ok (.lushr, 1) := by decide +kernel
theorem dX8_holds_3 : decode cX8_holds 3 = .ok (.lconst 1, 1) := by decide +kernel
theorem dX8_holds_4 : decode cX8_holds 4 = .ok (.land, 1) := by decide +kernel
theorem dX8_holds_5 : decode cX8_holds 5 = .ok (.lconst 0, 1) := by decide +kernel
theorem dX8_holds_6 : decode cX8_holds 6 = .ok (.lcmp, 1) := by decide +kernel
theorem dX8_holds_7 : decode cX8_holds 7 = .ok (.ifCond .eq 7, 3) := by decide +kernel
theorem dX8_holds_14 : decode cX8_holds 14 = .ok (.iconst 0, 1) := by decide +kernel
theorem dX8_holds_15 : decode cX8_holds 15 = .ok (.ireturn, 1) := by decide +kernel
theorem dX8_startingUpOrStopping_0 : decode cX8_startingUpOrStopping 0 = .ok (.aload_n 0, 1) := by decide +kernel
theorem dX8_startingUpOrStopping_1 : decode cX8_startingUpOrStopping 1 = .ok (.getfield 53, 3) := by decide +kernel
theorem dX8_startingUpOrStopping_4 : decode cX8_startingUpOrStopping 4 = .ok (.iconst 1, 1) := by decide +kernel
theorem dX8_startingUpOrStopping_5 : decode cX8_startingUpOrStopping 5 = .ok (.laload, 1) := by decide +kernel
theorem dX8_startingUpOrStopping_6 : decode cX8_startingUpOrStopping 6 = .ok (.aload_n 0, 1) := by decide +kernel
theorem dX8_startingUpOrStopping_7 : decode cX8_startingUpOrStopping 7 = .ok (.getfield 53, 3) := by decide +kernel
theorem dX8_startingUpOrStopping_10 : decode cX8_startingUpOrStopping 10 = .ok (.iconst 2, 1) := by decide +kernel
theorem dX8_startingUpOrStopping_11 : decode cX8_startingUpOrStopping 11 = .ok (.laload, 1) := by decide +kernel
theorem dX8_startingUpOrStopping_12 : decode cX8_startingUpOrStopping 12 = .ok (.lor, 1) := by decide +kernel
theorem dX8_startingUpOrStopping_13 : decode cX8_startingUpOrStopping 13 = .ok (.aload_n 0, 1) := by decide +kernel
theorem dX8_startingUpOrStopping_14 : decode cX8_startingUpOrStopping 14 = .ok (.getfield 53, 3) := by decide +kernel
theorem dX8_startingUpOrStopping_17 : decode cX8_startingUpOrStopping 17 = .ok (.iconst 3, 1) := by decide +kernel
theorem dX8_startingUpOrStopping_18 : decode cX8_startingUpOrStopping 18 = .ok (.laload, 1) := by decide +kernel
theorem dX8_startingUpOrStopping_19 : decode cX8_startingUpOrStopping 19 = .ok (.lor, 1) := by decide +kernel
theorem dX8_startingUpOrStopping_20 : decode cX8_startingUpOrStopping 20 = .ok (.lreturn, 1) := by decide +kernel
theorem dX8_leastLacking_0 : decode cX8_leastLacking 0 = .ok (.aload_n 0, 1) := by decide +kernel
theorem dX8_leastLacking_1 : decode cX8_leastLacking 1 = .ok (.getfield 53, 3) := by decide +kernel
theorem dX8_leastLacking_4 : decode cX8_leastLacking 4 = .ok (.iconst 1, 1) := by decide +kernel
theorem dX8_leastLacking_5 : decode cX8_leastLacking 5 = .ok (.laload, 1) := by decide +kernel
theorem dX8_leastLacking_6 : decode cX8_leastLacking 6 = .ok (.aload_n 0, 1) := by decide +kernel
theorem dX8_leastLacking_7 : decode cX8_leastLacking 7 = .ok (.getfield 53, 3) := by decide +kernel
theorem dX8_leastLacking_10 : decode cX8_leastLacking 10 = .ok (.iconst 2, 1) := by decide +kernel
theorem dX8_leastLacking_11 : decode cX8_leastLacking 11 = .ok (.laload, 1) := by decide +kernel
theorem dX8_leastLacking_12 : decode cX8_leastLacking 12 = .ok (.lor, 1) := by decide +kernel
theorem dX8_leastLacking_13 : decode cX8_leastLacking 13 = .ok (.lstore_n 1, 1) := by decide +kernel
theorem dX8_leastLacking_14 : decode cX8_leastLacking 14 = .ok (.iconst 0, 1) := by decide +kernel
theorem dX8_leastLacking_15 : decode cX8_leastLacking 15 = .ok (.istore_n 3, 1) := by decide +kernel
theorem dX8_leastLacking_16 : decode cX8_leastLacking 16 = .ok (.iload_n 3, 1) := by decide +kernel
theorem dX8_leastLacking_17 : decode cX8_leastLacking 17 = .ok (.aload_n 0, 1) := by decide +kernel
theorem dX8_leastLacking_18 : decode cX8_leastLacking 18 = .ok (.getfield 10, 3) := by decide +kernel
theorem dX8_leastLacking_21 : decode cX8_leastLacking 21 = .ok (.invokevirtual 61, 3) := by decide +kernel
theorem dX8_leastLacking_24 : decode cX8_leastLacking 24 = .ok (.if_icmp .ge 27, 3) := by decide +kernel
theorem dX8_leastLacking_51 : decode cX8_leastLacking 51 = .ok (.iconst (-1), 1) := by decide +kernel
theorem dX8_leastLacking_52 : decode cX8_leastLacking 52 = .ok (.ireturn, 1) := by decide +kernel
theorem dX8_beginJobs_0 : decode cX8_beginJobs 0 = .ok (.aload_n 0, 1) := by decide +kernel
theorem dX8_beginJobs_1 : decode cX8_beginJobs 1 = .ok (.getfield 35, 3) := by decide +kernel
theorem dX8_beginJobs_4 : decode cX8_beginJobs 4 = .ok (.invokevirtual 110, 3) := by decide +kernel
theorem dX8_beginJobs_7 : decode cX8_beginJobs 7 = .ok (.lconst 0, 1) := by decide +kernel
theorem dX8_beginJobs_8 : decode cX8_beginJobs 8 = .ok (.lcmp, 1) := by decide +kernel
theorem dX8_beginJobs_9 : decode cX8_beginJobs 9 = .ok (.ifCond .ne 4, 3) := by decide +kernel
theorem dX8_beginJobs_12 : decode cX8_beginJobs 12 = .ok (.return_, 1) := by decide +kernel
theorem dX8_passTick_0 : decode cX8_passTick 0 = .ok (.aload_n 0, 1) := by decide +kernel
theorem dX8_passTick_1 : decode cX8_passTick 1 = .ok (.dup, 1) := by decide +kernel
theorem dX8_passTick_2 : decode cX8_passTick 2 = .ok (.getfield 67, 3) := by decide +kernel
theorem dX8_passTick_5 : decode cX8_passTick 5 = .ok (.iconst 1, 1) := by decide +kernel
theorem dX8_passTick_6 : decode cX8_passTick 6 = .ok (.iadd, 1) := by decide +kernel
theorem dX8_passTick_7 : decode cX8_passTick 7 = .ok (.putfield 67, 3) := by decide +kernel
theorem dX8_passTick_10 : decode cX8_passTick 10 = .ok (.aload_n 0, 1) := by decide +kernel
theorem dX8_passTick_11 : decode cX8_passTick 11 = .ok (.getfield 53, 3) := by decide +kernel
theorem dX8_passTick_14 : decode cX8_passTick 14 = .ok (.iconst 1, 1) := by decide +kernel
theorem dX8_passTick_15 : decode cX8_passTick 15 = .ok (.laload, 1) := by decide +kernel
theorem dX8_passTick_16 : decode cX8_passTick 16 = .ok (.aload_n 0, 1) := by decide +kernel
theorem dX8_passTick_17 : decode cX8_passTick 17 = .ok (.getfield 53, 3) := by decide +kernel
theorem dX8_passTick_20 : decode cX8_passTick 20 = .ok (.iconst 3, 1) := by decide +kernel
theorem dX8_passTick_21 : decode cX8_passTick 21 = .ok (.laload, 1) := by decide +kernel
theorem dX8_passTick_22 : decode cX8_passTick 22 = .ok (.lor, 1) := by decide +kernel
theorem dX8_passTick_23 : decode cX8_passTick 23 = .ok (.aload_n 0, 1) := by decide +kernel
theorem dX8_passTick_24 : decode cX8_passTick 24 = .ok (.getfield 53, 3) := by decide +kernel
theorem dX8_passTick_27 : decode cX8_passTick 27 = .ok (.iconst 5, 1) := by decide +kernel
theorem dX8_passTick_28 : decode cX8_passTick 28 = .ok (.laload, 1) := by decide +kernel
theorem dX8_passTick_29 : decode cX8_passTick 29 = .ok (.lor, 1) := by decide +kernel
theorem dX8_passTick_30 : decode cX8_passTick 30 = .ok (.aload_n 0, 1) := by decide +kernel
theorem dX8_passTick_31 : decode cX8_passTick 31 = .ok (.getfield 311, 3) := by decide +kernel
theorem dX8_passTick_34 : decode cX8_passTick 34 = .ok (.lor, 1) := by decide +kernel
theorem dX8_passTick_35 : decode cX8_passTick 35 = .ok (.lstore_n 1, 1) := by decide +kernel
theorem dX8_passTick_36 : decode cX8_passTick 36 = .ok (.lload_n 1, 1) := by decide +kernel
theorem dX8_passTick_37 : decode cX8_passTick 37 = .ok (.lconst 0, 1) := by decide +kernel
theorem dX8_passTick_38 : decode cX8_passTick 38 = .ok (.lcmp, 1) := by decide +kernel
theorem dX8_passTick_39 : decode cX8_passTick 39 = .ok (.ifCond .eq 56, 3) := by decide +kernel
theorem dX8_passTick_95 : decode cX8_passTick 95 = .ok (.aload_n 0, 1) := by decide +kernel
theorem dX8_passTick_96 : decode cX8_passTick 96 = .ok (.invokevirtual 317, 3) := by decide +kernel
theorem dX8_passTick_99 : decode cX8_passTick 99 = .ok (.aload_n 0, 1) := by decide +kernel
theorem dX8_passTick_100 : decode cX8_passTick 100 = .ok (.invokevirtual 320, 3) := by decide +kernel
theorem dX8_passTick_103 : decode cX8_passTick 103 = .ok (.aload_n 0, 1) := by decide +kernel
theorem dX8_passTick_104 : decode cX8_passTick 104 = .ok (.invokevirtual 260, 3) := by decide +kernel
theorem dX8_passTick_107 : decode cX8_passTick 107 = .ok (.return_, 1) := by decide +kernel
theorem dX8_stopTheLacking_0 : decode cX8_stopTheLacking 0 = .ok (.aload_n 0, 1) := by decide +kernel
theorem dX8_stopTheLacking_1 : decode cX8_stopTheLacking 1 = .ok (.getfield 49, 3) := by decide +kernel
theorem dX8_stopTheLacking_4 : decode cX8_stopTheLacking 4 = .ok (.getfield 219, 3) := by decide +kernel
theorem dX8_stopTheLacking_7 : decode cX8_stopTheLacking 7 = .ok (.aload_n 0, 1) := by decide +kernel
theorem dX8_stopTheLacking_8 : decode cX8_stopTheLacking 8 = .ok (.getfield 335, 3) := by decide +kernel
theorem dX8_stopTheLacking_11 : decode cX8_stopTheLacking 11 = .ok (.if_icmp .ne 4, 3) := by decide +kernel
theorem dX8_stopTheLacking_14 : decode cX8_stopTheLacking 14 = .ok (.return_, 1) := by decide +kernel
theorem dX8_readLetters_0 : decode cX8_readLetters 0 = .ok (.aload_n 0, 1) := by decide +kernel
theorem dX8_readLetters_1 : decode cX8_readLetters 1 = .ok (.getfield 158, 3) := by decide +kernel
theorem dX8_readLetters_4 : decode cX8_readLetters 4 = .ok (.aload_n 0, 1) := by decide +kernel
theorem dX8_readLetters_5 : decode cX8_readLetters 5 = .ok (.getfield 53, 3) := by decide +kernel
theorem dX8_readLetters_8 : decode cX8_readLetters 8 = .ok (.iconst 2, 1) := by decide +kernel
theorem dX8_readLetters_9 : decode cX8_readLetters 9 = .ok (.laload, 1) := by decide +kernel
theorem dX8_readLetters_10 : decode cX8_readLetters 10 = .ok (.land, 1) := by decide +kernel
theorem dX8_readLetters_11 : decode cX8_readLetters 11 = .ok (.lstore_n 1, 1) := by decide +kernel
theorem dX8_readLetters_12 : decode cX8_readLetters 12 = .ok (.lload_n 1, 1) := by decide +kernel
theorem dX8_readLetters_13 : decode cX8_readLetters 13 = .ok (.lconst 0, 1) := by decide +kernel
theorem dX8_readLetters_14 : decode cX8_readLetters 14 = .ok (.lcmp, 1) := by decide +kernel
theorem dX8_readLetters_15 : decode cX8_readLetters 15 = .ok (.ifCond .ne 4, 3) := by decide +kernel
theorem dX8_readLetters_18 : decode cX8_readLetters 18 = .ok (.return_, 1) := by decide +kernel
def wq_stopTheLacking : List Cond := [.code yX8_stopTheLacking cX8_stopTheLacking 3 none, .fieldLink RX8 49 "ServiceTree" "history" "LServiceTree$History;", .fieldLink RX8 335 "ServiceTree" "settledChanges" "I"] ++ (wsX20 ++ (wsX80))
theorem in_stopTheLacking_X2 : ∀ w ∈ wsX20, w ∈ wq_stopTheLacking := fun _ h => List.mem_append_right _ (List.mem_append_left _ (h))
theorem in_stopTheLacking_X8 : ∀ w ∈ wsX80, w ∈ wq_stopTheLacking := fun _ h => List.mem_append_right _ (List.mem_append_right _ (h))
set_option maxRecDepth 20000 in
theorem wi_stopTheLacking : ∀ w ∈ wq_stopTheLacking, w ∈ lw_tbl := List.forall_mem_append.mpr ⟨(by decide +kernel), List.forall_mem_append.mpr ⟨inKX2, inKX8⟩⟩
set_option maxRecDepth 20000 in
theorem wg_stopTheLacking : GoodIn wq_stopTheLacking wq_stopTheLacking := goodIn_sub (fun _ h => h) (by decide +kernel)
set_option maxHeartbeats 4000000 in
set_option maxRecDepth 100000 in
theorem c_stopTheLacking (l : Launch) (dC : Nat → ClassId) (dI : Nat → Nat → Nat) (h0 : Nat) (a : Nat → Nat) (nw : Int32) (b : Nat) (sz : Nat) : Met l yX8_stopTheLacking wq_stopTheLacking ({ frames := 0, cells := 0, slots := 0, locals := 0 }) (va_Pc [.ref h0] (fun U => U.heap.size = sz ∧ va_P (dC, dI) vwCl [(h0, .inr (9, [.ref (a 0), .ref (a 1), .ref (a 2), .ref (a 3), .ref (a 4), .ref (a 5), .ref (a 6), .long 0, .long 0, .int nw, .int 0, .int 0, .int 0, .int 0])), (a 5, .inr (3, [.ref b, .int 0]))] U.heap ∧ va_K (dC, dI) vwCl [] U ∧ va_D (fun _ => True) [(h0, .inr (9, [.ref (a 0), .ref (a 1), .ref (a 2), .ref (a 3), .ref (a 4), .ref (a 5), .ref (a 6), .long 0, .long 0, .int nw, .int 0, .int 0, .int 0, .int 0])), (a 5, .inr (3, [.ref b, .int 0]))] ∧ pw_N U)) (va_Qv (fun (_ : Unit) => True) (fun (_ : Unit) (t : State) => va_P (dC, dI) vwCl [(h0, .inr (9, [.ref (a 0), .ref (a 1), .ref (a 2), .ref (a 3), .ref (a 4), .ref (a 5), .ref (a 6), .long 0, .long 0, .int nw, .int 0, .int 0, .int 0, .int 0])), (a 5, .inr (3, [.ref b, .int 0]))] t.heap ∧ va_D (va_A [(h0, .inr (9, [.ref (a 0), .ref (a 1), .ref (a 2), .ref (a 3), .ref (a 4), .ref (a 5), .ref (a 6), .long 0, .long 0, .int nw, .int 0, .int 0, .int 0, .int 0])), (a 5, .inr (3, [.ref b, .int 0]))] sz) [(h0, .inr (9, [.ref (a 0), .ref (a 1), .ref (a 2), .ref (a 3), .ref (a 4), .ref (a 5), .ref (a 6), .long 0, .long 0, .int nw, .int 0, .int 0, .int 0, .int 0])), (a 5, .inr (3, [.ref b, .int 0]))]) (va_A [(h0, .inr (9, [.ref (a 0), .ref (a 1), .ref (a 2), .ref (a 3), .ref (a 4), .ref (a 5), .ref (a 6), .long 0, .long 0, .int nw, .int 0, .int 0, .int 0, .int 0])), (a 5, .inr (3, [.ref b, .int 0]))] sz)) 0 0 (va_A [(h0, .inr (9, [.ref (a 0), .ref (a 1), .ref (a 2), .ref (a 3), .ref (a 4), .ref (a 5), .ref (a 6), .long 0, .long 0, .int nw, .int 0, .int 0, .int 0, .int 0])), (a 5, .inr (3, [.ref b, .int 0]))] sz) := by
  refine Met.ofW (cc := cX8_stopTheLacking) (maxL := 3) (ret := none) (by decide) rfl ?_
  intro p e s m args below meth c s₁ B hml hv
  obtain ⟨rfl, hsz, hP, hK, hD0, hN⟩ := hv
  have hx := B.exec
  have hb := B.bytes
  have hr := B.returns
  have hts := atoms_spec (ws := wq_stopTheLacking) B.pre
  have hown : s.vm.findClass RX8 = some m.cls := findClass_of_methodNamed B.named
  have hlocks := B.notSynchronized
  subst hsz
  have hD := hD0.self (sz := s.heap.size)
  generalize hAe : va_A [(h0, .inr (9, [.ref (a 0), .ref (a 1), .ref (a 2), .ref (a 3), .ref (a 4), .ref (a 5), .ref (a 6), .long 0, .long 0, .int nw, .int 0, .int 0, .int 0, .int 0])), (a 5, .inr (3, [.ref b, .int 0]))] s.heap.size = A at hD ⊢
  have hA : ∀ q : Nat, s.heap.size ≤ q → A q := fun q h => by rw [← hAe]; exact Or.inr h
  have hS : va_S A s.heap s.heap [] := va_S.rf
  have hP : va_P (dC, dI) vwCl [(h0, .inr (9, [.ref (a 0), .ref (a 1), .ref (a 2), .ref (a 3), .ref (a 4), .ref (a 5), .ref (a 6), .long 0, .long 0, .int nw, .int 0, .int 0, .int 0, .int 0])), (a 5, .inr (3, [.ref b, .int 0]))] s.heap := hP
  have hl := lv_entry ([.ref h0]) (n := 3) (Nat.le_of_ble_eq_true rfl)
  rw [lg_entry_eq]
  generalize (lg_sl ([.ref h0]) ++ List.replicate (3 - (lg_sl ([.ref h0])).length) Slot.unset).toArray = ls at hl ⊢
  have hl : lv_has ls 3 [(0, .ref h0)] := hl
  refine lv_aload_n hx hb dX8_stopTheLacking_0 rfl (lv_at hl 0 rfl) ?_
  refine va_get (D := (dC, dI)) (ci := 9) (v := .ref (a 5)) (C := RX8) (T := TX8) (N := 14) hx hb hts in_stopTheLacking_X8 hown hK hP 0 rfl rfl 5 (by decide) (hts (.fieldLink RX8 49 "ServiceTree" "history" "LServiceTree$History;") (by decide +kernel)) (fun _ h9 => h9) rfl dX8_stopTheLacking_1 ?_
  refine va_getN (D := (dC, dI)) (ci := 3) (v := .int 0) (C := RX2) (T := TX2) (N := 2) hx hb hts in_stopTheLacking_X2 hown hK hP 1 rfl rfl 1 (by decide) (va_Nw.use rfl (hN (.fieldLinkNest RX8 219 "ServiceTree$History" "size" "I" "ServiceTree") (by decide +kernel))) (fun _ h9 => h9) rfl dX8_stopTheLacking_4 ?_
  refine lv_aload_n hx hb dX8_stopTheLacking_7 rfl (lv_at hl 0 rfl) ?_
  refine va_get (D := (dC, dI)) (ci := 9) (v := .int 0) (C := RX8) (T := TX8) (N := 14) hx hb hts in_stopTheLacking_X8 hown hK hP 0 rfl rfl 13 (by decide) (hts (.fieldLink RX8 335 "ServiceTree" "settledChanges" "I") (by decide +kernel)) (fun _ h9 => h9) rfl dX8_stopTheLacking_8 ?_
  refine lv_icmp_ne (tgt := 15) hx hb dX8_stopTheLacking_11 (by decide) (fun c9 => absurd (by decide) c9) (fun _ => ?_)
  have hP9 := hP.sub (ws' := [(h0, .inr (9, [.ref (a 0), .ref (a 1), .ref (a 2), .ref (a 3), .ref (a 4), .ref (a 5), .ref (a 6), .long 0, .long 0, .int nw, .int 0, .int 0, .int 0, .int 0])), (a 5, .inr (3, [.ref b, .int 0]))]) [0, 1] rfl
  have hD9 := hD.sub (ws' := [(h0, .inr (9, [.ref (a 0), .ref (a 1), .ref (a 2), .ref (a 3), .ref (a 4), .ref (a 5), .ref (a 6), .long 0, .long 0, .int nw, .int 0, .int 0, .int 0, .int 0])), (a 5, .inr (3, [.ref b, .int 0]))]) [0, 1] (by decide) rfl
  exact W.vret hx hb hr (fun t ht hW => ⟨⟨(), rfl, trivial, by rw [ht]; exact hP9, hD9⟩, hS.F ht⟩) hS.2.2 dX8_stopTheLacking_14
def wq_readLetters : List Cond := [.code yX8_readLetters cX8_readLetters 5 none, .fieldLink RX8 158 "ServiceTree" "withLetters" "J", .fieldLink RX8 53 "ServiceTree" "inState" "[J"] ++ (wsX80)
theorem in_readLetters_X8 : ∀ w ∈ wsX80, w ∈ wq_readLetters := fun _ h => List.mem_append_right _ (h)
set_option maxRecDepth 20000 in
theorem wi_readLetters : ∀ w ∈ wq_readLetters, w ∈ lw_tbl := List.forall_mem_append.mpr ⟨(by decide +kernel), inKX8⟩
set_option maxRecDepth 20000 in
theorem wg_readLetters : GoodIn wq_readLetters wq_readLetters := goodIn_sub (fun _ h => h) (by decide +kernel)
set_option maxHeartbeats 4000000 in
set_option maxRecDepth 100000 in
theorem c_readLetters (l : Launch) (dC : Nat → ClassId) (dI : Nat → Nat → Nat) (h0 : Nat) (a : Nat → Nat) (nw : Int32) (cI : ClassId) (sz : Nat) : Met l yX8_readLetters wq_readLetters ({ frames := 0, cells := 0, slots := 0, locals := 0 }) (va_Pc [.ref h0] (fun U => U.heap.size = sz ∧ va_P (dC, dI) vwCl [(h0, .inr (9, [.ref (a 0), .ref (a 1), .ref (a 2), .ref (a 3), .ref (a 4), .ref (a 5), .ref (a 6), .long 0, .long 0, .int nw, .int 0, .int 0, .int 0, .int 0])), (a 6, .inl (cI, 6, .inr (.inl (fun _ => 0))))] U.heap ∧ va_K (dC, dI) vwCl [(cI, .long)] U ∧ va_D (fun _ => True) [(h0, .inr (9, [.ref (a 0), .ref (a 1), .ref (a 2), .ref (a 3), .ref (a 4), .ref (a 5), .ref (a 6), .long 0, .long 0, .int nw, .int 0, .int 0, .int 0, .int 0])), (a 6, .inl (cI, 6, .inr (.inl (fun _ => 0))))] ∧ pw_N U)) (va_Qv (fun (_ : Unit) => True) (fun (_ : Unit) (t : State) => va_P (dC, dI) vwCl [(h0, .inr (9, [.ref (a 0), .ref (a 1), .ref (a 2), .ref (a 3), .ref (a 4), .ref (a 5), .ref (a 6), .long 0, .long 0, .int nw, .int 0, .int 0, .int 0, .int 0])), (a 6, .inl (cI, 6, .inr (.inl (fun _ => 0))))] t.heap ∧ va_D (va_A [(h0, .inr (9, [.ref (a 0), .ref (a 1), .ref (a 2), .ref (a 3), .ref (a 4), .ref (a 5), .ref (a 6), .long 0, .long 0, .int nw, .int 0, .int 0, .int 0, .int 0])), (a 6, .inl (cI, 6, .inr (.inl (fun _ => 0))))] sz) [(h0, .inr (9, [.ref (a 0), .ref (a 1), .ref (a 2), .ref (a 3), .ref (a 4), .ref (a 5), .ref (a 6), .long 0, .long 0, .int nw, .int 0, .int 0, .int 0, .int 0])), (a 6, .inl (cI, 6, .inr (.inl (fun _ => 0))))]) (va_A [(h0, .inr (9, [.ref (a 0), .ref (a 1), .ref (a 2), .ref (a 3), .ref (a 4), .ref (a 5), .ref (a 6), .long 0, .long 0, .int nw, .int 0, .int 0, .int 0, .int 0])), (a 6, .inl (cI, 6, .inr (.inl (fun _ => 0))))] sz)) 0 0 (va_A [(h0, .inr (9, [.ref (a 0), .ref (a 1), .ref (a 2), .ref (a 3), .ref (a 4), .ref (a 5), .ref (a 6), .long 0, .long 0, .int nw, .int 0, .int 0, .int 0, .int 0])), (a 6, .inl (cI, 6, .inr (.inl (fun _ => 0))))] sz) := by
  refine Met.ofW (cc := cX8_readLetters) (maxL := 5) (ret := none) (by decide) rfl ?_
  intro p e s m args below meth c s₁ B hml hv
  obtain ⟨rfl, hsz, hP, hK, hD0, hN⟩ := hv
  have hx := B.exec
  have hb := B.bytes
  have hr := B.returns
  have hts := atoms_spec (ws := wq_readLetters) B.pre
  have hown : s.vm.findClass RX8 = some m.cls := findClass_of_methodNamed B.named
  have hlocks := B.notSynchronized
  subst hsz
  have hD := hD0.self (sz := s.heap.size)
  generalize hAe : va_A [(h0, .inr (9, [.ref (a 0), .ref (a 1), .ref (a 2), .ref (a 3), .ref (a 4), .ref (a 5), .ref (a 6), .long 0, .long 0, .int nw, .int 0, .int 0, .int 0, .int 0])), (a 6, .inl (cI, 6, .inr (.inl (fun _ => 0))))] s.heap.size = A at hD ⊢
  have hA : ∀ q : Nat, s.heap.size ≤ q → A q := fun q h => by rw [← hAe]; exact Or.inr h
  have hS : va_S A s.heap s.heap [] := va_S.rf
  have hP : va_P (dC, dI) vwCl [(h0, .inr (9, [.ref (a 0), .ref (a 1), .ref (a 2), .ref (a 3), .ref (a 4), .ref (a 5), .ref (a 6), .long 0, .long 0, .int nw, .int 0, .int 0, .int 0, .int 0])), (a 6, .inl (cI, 6, .inr (.inl (fun _ => 0))))] s.heap := hP
  have hl := lv_entry ([.ref h0]) (n := 5) (Nat.le_of_ble_eq_true rfl)
  rw [lg_entry_eq]
  generalize (lg_sl ([.ref h0]) ++ List.replicate (5 - (lg_sl ([.ref h0])).length) Slot.unset).toArray = ls at hl ⊢
  have hl : lv_has ls 5 [(0, .ref h0)] := hl
  refine lv_aload_n hx hb dX8_readLetters_0 rfl (lv_at hl 0 rfl) ?_
  refine va_get (D := (dC, dI)) (ci := 9) (v := .long 0) (C := RX8) (T := TX8) (N := 14) hx hb hts in_readLetters_X8 hown hK hP 0 rfl rfl 8 (by decide) (hts (.fieldLink RX8 158 "ServiceTree" "withLetters" "J") (by decide +kernel)) (fun _ h9 => h9) rfl dX8_readLetters_1 ?_
  refine lv_aload_n hx hb dX8_readLetters_4 rfl (lv_at hl 0 rfl) ?_
  refine va_get (D := (dC, dI)) (ci := 9) (v := .ref (a 6)) (C := RX8) (T := TX8) (N := 14) hx hb hts in_readLetters_X8 hown hK hP 0 rfl rfl 6 (by decide) (hts (.fieldLink RX8 53 "ServiceTree" "inState" "[J") (by decide +kernel)) (fun _ h9 => h9) rfl dX8_readLetters_5 ?_
  refine lv_iconst (v := 2) hx hb dX8_readLetters_8 (by decide) ?_
  refine va_lald hx hb hK hP 1 0 rfl rfl (show ¬ ((2 : Int32) < 0 ∨ 6 ≤ (2 : Int32).toNatClampNeg) by decide) dX8_readLetters_9 ?_
  refine lv_topl (fun x_1 ex_1 => ?_)
  obtain rfl : x_1 = 0 := ex_1
  refine lv_land hx hb dX8_readLetters_10 ?_
  refine lv_topl (fun x_2 ex_2 => ?_)
  obtain rfl : x_2 = 0 := ex_2.trans (by decide)
  refine lv_lstore_n (lv' := [(1, .long 0), (0, .ref h0)]) hx hb dX8_readLetters_11 rfl hl (by decide) rfl (fun ls hl => ?_)
  refine lv_lload_n hx hb dX8_readLetters_12 rfl (lv_at hl 0 rfl) ?_
  refine lv_lconst (v := 0) hx hb dX8_readLetters_13 (by decide) ?_
  refine W.lcmp hx hb dX8_readLetters_14 ?_
  refine lv_topi (fun x_3 ex_3 => ?_)
  obtain rfl : x_3 = 0 := ex_3.trans (by decide)
  refine lv_if_ne (tgt := 19) hx hb dX8_readLetters_15 (by decide) (fun c9 => absurd (by decide) c9) (fun _ => ?_)
  have hP9 := hP.sub (ws' := [(h0, .inr (9, [.ref (a 0), .ref (a 1), .ref (a 2), .ref (a 3), .ref (a 4), .ref (a 5), .ref (a 6), .long 0, .long 0, .int nw, .int 0, .int 0, .int 0, .int 0])), (a 6, .inl (cI, 6, .inr (.inl (fun _ => 0))))]) [0, 1] rfl
  have hD9 := hD.sub (ws' := [(h0, .inr (9, [.ref (a 0), .ref (a 1), .ref (a 2), .ref (a 3), .ref (a 4), .ref (a 5), .ref (a 6), .long 0, .long 0, .int nw, .int 0, .int 0, .int 0, .int 0])), (a 6, .inl (cI, 6, .inr (.inl (fun _ => 0))))]) [0, 1] (by decide) rfl
  exact W.vret hx hb hr (fun t ht hW => ⟨⟨(), rfl, trivial, by rw [ht]; exact hP9, hD9⟩, hS.F ht⟩) hS.2.2 dX8_readLetters_18
def wq_beginJobs : List Cond := [.code yX8_beginJobs cX8_beginJobs 3 none, .fieldLink RX8 35 "ServiceTree" "jobs" "LServiceTree$Jobs;", .methodLink RX8 110 yX3_left, .instanceMethod yX3_left, .selects RX3 yX3_left yX3_left, .initialized RX3] ++ (wsX80 ++ (wq_left))
theorem in_beginJobs_X8 : ∀ w ∈ wsX80, w ∈ wq_beginJobs := fun _ h => List.mem_append_right _ (List.mem_append_left _ (h))
set_option maxRecDepth 20000 in
theorem wi_beginJobs : ∀ w ∈ wq_beginJobs, w ∈ lw_tbl := List.forall_mem_append.mpr ⟨(by decide +kernel), List.forall_mem_append.mpr ⟨inKX8, wi_left⟩⟩
set_option maxRecDepth 20000 in
theorem wg_beginJobs : GoodIn wq_beginJobs wq_beginJobs := goodIn_sub (fun _ h => h) (by decide +kernel)
set_option maxRecDepth 20000 in
theorem wc_beginJobs_left_110 : GoodIn wq_beginJobs (wsV RX8 110 RX3 yX3_left wq_left) := goodIn_app (goodIn_of _ (by decide +kernel)) (fun w h => ⟨List.mem_append_right _ (List.mem_append_right _ (h)), (wg_left w h).2⟩)
set_option maxHeartbeats 4000000 in
set_option maxRecDepth 100000 in
theorem c_beginJobs (l : Launch) (dC : Nat → ClassId) (dI : Nat → Nat → Nat) (h0 : Nat) (a : Nat → Nat) (nw : Int32) (b : Nat) (sz : Nat) : Met l yX8_beginJobs wq_beginJobs ({ frames := 1, cells := 0, slots := 0, locals := 20 }) (va_Pc [.ref h0] (fun U => U.heap.size = sz ∧ va_P (dC, dI) vwCl [(h0, .inr (9, [.ref (a 0), .ref (a 1), .ref (a 2), .ref (a 3), .ref (a 4), .ref (a 5), .ref (a 6), .long 0, .long 0, .int nw, .int 0, .int 0, .int 0, .int 0])), (a 3, .inr (4, [.ref b, .long 0, .long 0, .long 0]))] U.heap ∧ va_K (dC, dI) vwCl [] U ∧ va_D (fun _ => True) [(h0, .inr (9, [.ref (a 0), .ref (a 1), .ref (a 2), .ref (a 3), .ref (a 4), .ref (a 5), .ref (a 6), .long 0, .long 0, .int nw, .int 0, .int 0, .int 0, .int 0])), (a 3, .inr (4, [.ref b, .long 0, .long 0, .long 0]))] ∧ pw_N U)) (va_Qv (fun (_ : Unit) => True) (fun (_ : Unit) (t : State) => va_P (dC, dI) vwCl [(h0, .inr (9, [.ref (a 0), .ref (a 1), .ref (a 2), .ref (a 3), .ref (a 4), .ref (a 5), .ref (a 6), .long 0, .long 0, .int nw, .int 0, .int 0, .int 0, .int 0])), (a 3, .inr (4, [.ref b, .long 0, .long 0, .long 0]))] t.heap ∧ va_D (va_A [(h0, .inr (9, [.ref (a 0), .ref (a 1), .ref (a 2), .ref (a 3), .ref (a 4), .ref (a 5), .ref (a 6), .long 0, .long 0, .int nw, .int 0, .int 0, .int 0, .int 0])), (a 3, .inr (4, [.ref b, .long 0, .long 0, .long 0]))] sz) [(h0, .inr (9, [.ref (a 0), .ref (a 1), .ref (a 2), .ref (a 3), .ref (a 4), .ref (a 5), .ref (a 6), .long 0, .long 0, .int nw, .int 0, .int 0, .int 0, .int 0])), (a 3, .inr (4, [.ref b, .long 0, .long 0, .long 0]))]) (va_A [(h0, .inr (9, [.ref (a 0), .ref (a 1), .ref (a 2), .ref (a 3), .ref (a 4), .ref (a 5), .ref (a 6), .long 0, .long 0, .int nw, .int 0, .int 0, .int 0, .int 0])), (a 3, .inr (4, [.ref b, .long 0, .long 0, .long 0]))] sz)) 0 0 (va_A [(h0, .inr (9, [.ref (a 0), .ref (a 1), .ref (a 2), .ref (a 3), .ref (a 4), .ref (a 5), .ref (a 6), .long 0, .long 0, .int nw, .int 0, .int 0, .int 0, .int 0])), (a 3, .inr (4, [.ref b, .long 0, .long 0, .long 0]))] sz) := by
  refine Met.ofW (cc := cX8_beginJobs) (maxL := 3) (ret := none) (by decide) rfl ?_
  intro p e s m args below meth c s₁ B hml hv
  obtain ⟨rfl, hsz, hP, hK, hD0, hN⟩ := hv
  have hx := B.exec
  have hb := B.bytes
  have hr := B.returns
  have hts := atoms_spec (ws := wq_beginJobs) B.pre
  have hown : s.vm.findClass RX8 = some m.cls := findClass_of_methodNamed B.named
  have hlocks := B.notSynchronized
  subst hsz
  have hD := hD0.self (sz := s.heap.size)
  generalize hAe : va_A [(h0, .inr (9, [.ref (a 0), .ref (a 1), .ref (a 2), .ref (a 3), .ref (a 4), .ref (a 5), .ref (a 6), .long 0, .long 0, .int nw, .int 0, .int 0, .int 0, .int 0])), (a 3, .inr (4, [.ref b, .long 0, .long 0, .long 0]))] s.heap.size = A at hD ⊢
  have hA : ∀ q : Nat, s.heap.size ≤ q → A q := fun q h => by rw [← hAe]; exact Or.inr h
  have hS : va_S A s.heap s.heap [] := va_S.rf
  have hP : va_P (dC, dI) vwCl [(h0, .inr (9, [.ref (a 0), .ref (a 1), .ref (a 2), .ref (a 3), .ref (a 4), .ref (a 5), .ref (a 6), .long 0, .long 0, .int nw, .int 0, .int 0, .int 0, .int 0])), (a 3, .inr (4, [.ref b, .long 0, .long 0, .long 0]))] s.heap := hP
  have hl := lv_entry ([.ref h0]) (n := 3) (Nat.le_of_ble_eq_true rfl)
  rw [lg_entry_eq]
  generalize (lg_sl ([.ref h0]) ++ List.replicate (3 - (lg_sl ([.ref h0])).length) Slot.unset).toArray = ls at hl ⊢
  have hl : lv_has ls 3 [(0, .ref h0)] := hl
  refine lv_aload_n hx hb dX8_beginJobs_0 rfl (lv_at hl 0 rfl) ?_
  refine va_get (D := (dC, dI)) (ci := 9) (v := .ref (a 3)) (C := RX8) (T := TX8) (N := 14) hx hb hts in_beginJobs_X8 hown hK hP 0 rfl rfl 3 (by decide) (hts (.fieldLink RX8 35 "ServiceTree" "jobs" "LServiceTree$Jobs;") (by decide +kernel)) (fun _ h9 => h9) rfl dX8_beginJobs_1 ?_
  have hPc := hP.sub (ws' := [(a 3, .inr (4, [.ref b, .long 0, .long 0, .long 0]))]) [1] rfl
  have hDc := hD.sub (ws' := [(a 3, .inr (4, [.ref b, .long 0, .long 0, .long 0]))]) [1] (by decide) rfl
  have hKc := hK.sub (tys' := []) [] rfl
  have hFc := va_free (wc := [(a 3, .inr (4, [.ref b, .long 0, .long 0, .long 0]))]) hD hS hA [1] rfl
  refine va_calll (va_runV (As := []) (rest := []) ⟨hx, hb, hml, hown, hts⟩ (c_left l dC dI (a 3) b s.heap.size) (cwV 0 hts wc_beginJobs_left_110 rfl rfl rfl (by decide +kernel) ⟨Nat.le_of_ble_eq_true rfl, Nat.le_of_ble_eq_true rfl⟩) ⟨fun a U g mk q => by obtain ⟨q0, q1, qP, qK, qD, qN⟩ := q; exact ⟨q0, q1, qP, va_K.moved (u := U) (U := U.calling g mk a) (Vm.Alike.refl U.vm) qK, qD, pw_N.same (u := U) (U := U.calling g mk a) rfl qN⟩, va_recv hKc hPc (ci := 4) (q0 := 0) rfl rfl, fun U hU hW => ⟨rfl, by rw [hU], by rw [hU]; exact hPc, va_K.moved hW.alike hKc, hDc.weaken (fun _ _ _ _ => trivial), pw_N.warm hW hN⟩⟩ rfl rfl hl.1 rfl (lv_room (Nat.le_of_ble_eq_true rfl)) dX8_beginJobs_4 ⟨Nat.le_of_ble_eq_true rfl, Nat.le_of_ble_eq_true rfl⟩) hS (fun q _ h => hFc q h) hFc (fun r_1 u t H1 locs ht hvm hw hB hz1 hk1 hS => ?_)
  obtain ⟨hP1, hD1⟩ := hB
  rw [ht] at hP1
  obtain ⟨hP, hD⟩ := va_join (wr := [(h0, .inr (9, [.ref (a 0), .ref (a 1), .ref (a 2), .ref (a 3), .ref (a 4), .ref (a 5), .ref (a 6), .long 0, .long 0, .int nw, .int 0, .int 0, .int 0, .int 0]))]) (w1 := [(a 3, .inr (4, [.ref b, .long 0, .long 0, .long 0]))]) hP hD [1] [0] rfl rfl (by decide) (by decide) hk1 hFc hP1 hD1
  generalize H1 = H at hP hS ⊢
  replace hP : va_P (dC, dI) vwCl [(h0, .inr (9, [.ref (a 0), .ref (a 1), .ref (a 2), .ref (a 3), .ref (a 4), .ref (a 5), .ref (a 6), .long 0, .long 0, .int nw, .int 0, .int 0, .int 0, .int 0])), (a 3, .inr (4, [.ref b, .long 0, .long 0, .long 0]))] H := hP
  replace hD : va_D A [(h0, .inr (9, [.ref (a 0), .ref (a 1), .ref (a 2), .ref (a 3), .ref (a 4), .ref (a 5), .ref (a 6), .long 0, .long 0, .int nw, .int 0, .int 0, .int 0, .int 0])), (a 3, .inr (4, [.ref b, .long 0, .long 0, .long 0]))] := hD
  try dsimp only at hw
  subst hw
  refine lv_lconst (v := 0) hx hb dX8_beginJobs_7 (by decide) ?_
  refine W.lcmp hx hb dX8_beginJobs_8 ?_
  refine lv_topi (fun x_2 ex_2 => ?_)
  obtain rfl : x_2 = 0 := ex_2.trans (by decide)
  refine lv_if_ne (tgt := 13) hx hb dX8_beginJobs_9 (by decide) (fun c9 => absurd (by decide) c9) (fun _ => ?_)
  have hP9 := hP.sub (ws' := [(h0, .inr (9, [.ref (a 0), .ref (a 1), .ref (a 2), .ref (a 3), .ref (a 4), .ref (a 5), .ref (a 6), .long 0, .long 0, .int nw, .int 0, .int 0, .int 0, .int 0])), (a 3, .inr (4, [.ref b, .long 0, .long 0, .long 0]))]) [0, 1] rfl
  have hD9 := hD.sub (ws' := [(h0, .inr (9, [.ref (a 0), .ref (a 1), .ref (a 2), .ref (a 3), .ref (a 4), .ref (a 5), .ref (a 6), .long 0, .long 0, .int nw, .int 0, .int 0, .int 0, .int 0])), (a 3, .inr (4, [.ref b, .long 0, .long 0, .long 0]))]) [0, 1] (by decide) rfl
  exact W.vret hx hb hr (fun t ht hW => ⟨⟨(), rfl, trivial, by rw [ht]; exact hP9, hD9⟩, hS.F ht⟩) hS.2.2 dX8_beginJobs_12
def wq_passTick : List Cond := [.code yX8_passTick cX8_passTick 4 none, .fieldLink RX8 67 "ServiceTree" "now" "I", .fieldLink RX8 53 "ServiceTree" "inState" "[J", .fieldLink RX8 311 "ServiceTree" "living" "J", .methodLink RX8 317 yX8_stopTheLacking, .instanceMethod yX8_stopTheLacking, .selects RX8 yX8_stopTheLacking yX8_stopTheLacking, .initialized RX8, .methodLink RX8 320 yX8_readLetters, .instanceMethod yX8_readLetters, .selects RX8 yX8_readLetters yX8_readLetters, .methodLink RX8 260 yX8_beginJobs, .instanceMethod yX8_beginJobs, .selects RX8 yX8_beginJobs yX8_beginJobs] ++ (wsX80 ++ (wq_stopTheLacking ++ (wq_readLetters ++ (wq_beginJobs))))
theorem in_passTick_X8 : ∀ w ∈ wsX80, w ∈ wq_passTick := fun _ h => List.mem_append_right _ (List.mem_append_left _ (h))
set_option maxRecDepth 20000 in
theorem wi_passTick : ∀ w ∈ wq_passTick, w ∈ lw_tbl := List.forall_mem_append.mpr ⟨(by decide +kernel), List.forall_mem_append.mpr ⟨inKX8, List.forall_mem_append.mpr ⟨wi_stopTheLacking, List.forall_mem_append.mpr ⟨wi_readLetters, wi_beginJobs⟩⟩⟩⟩
set_option maxRecDepth 20000 in
theorem wg_passTick : GoodIn wq_passTick wq_passTick := goodIn_sub (fun _ h => h) (by decide +kernel)
set_option maxRecDepth 20000 in
theorem wc_passTick_stopTheLacking_317 : GoodIn wq_passTick (wsV RX8 317 RX8 yX8_stopTheLacking wq_stopTheLacking) := goodIn_app (goodIn_of _ (by decide +kernel)) (fun w h => ⟨List.mem_append_right _ (List.mem_append_right _ (List.mem_append_left _ (h))), (wg_stopTheLacking w h).2⟩)
set_option maxRecDepth 20000 in
theorem wc_passTick_readLetters_320 : GoodIn wq_passTick (wsV RX8 320 RX8 yX8_readLetters wq_readLetters) := goodIn_app (goodIn_of _ (by decide +kernel)) (fun w h => ⟨List.mem_append_right _ (List.mem_append_right _ (List.mem_append_right _ (List.mem_append_left _ (h)))), (wg_readLetters w h).2⟩)
set_option maxRecDepth 20000 in
theorem wc_passTick_beginJobs_260 : GoodIn wq_passTick (wsV RX8 260 RX8 yX8_beginJobs wq_beginJobs) := goodIn_app (goodIn_of _ (by decide +kernel)) (fun w h => ⟨List.mem_append_right _ (List.mem_append_right _ (List.mem_append_right _ (List.mem_append_right _ (h)))), (wg_beginJobs w h).2⟩)
set_option maxHeartbeats 4000000 in
set_option maxRecDepth 100000 in
theorem c_passTick (l : Launch) (dC : Nat → ClassId) (dI : Nat → Nat → Nat) (h0 : Nat) (a : Nat → Nat) (nw : Int32) (b5 : Nat) (b3 : Nat) (cI : ClassId) (sz : Nat) : Met l yX8_passTick wq_passTick ({ frames := 2, cells := 0, slots := 0, locals := 42 }) (va_Pc [.ref h0] (fun U => U.heap.size = sz ∧ va_P (dC, dI) vwCl [(h0, .inr (9, [.ref (a 0), .ref (a 1), .ref (a 2), .ref (a 3), .ref (a 4), .ref (a 5), .ref (a 6), .long 0, .long 0, .int nw, .int 0, .int 0, .int 0, .int 0])), (a 5, .inr (3, [.ref b5, .int 0])), (a 3, .inr (4, [.ref b3, .long 0, .long 0, .long 0])), (a 6, .inl (cI, 6, .inr (.inl (fun _ => 0))))] U.heap ∧ va_K (dC, dI) vwCl [(cI, .long)] U ∧ va_D (fun _ => True) [(h0, .inr (9, [.ref (a 0), .ref (a 1), .ref (a 2), .ref (a 3), .ref (a 4), .ref (a 5), .ref (a 6), .long 0, .long 0, .int nw, .int 0, .int 0, .int 0, .int 0])), (a 5, .inr (3, [.ref b5, .int 0])), (a 3, .inr (4, [.ref b3, .long 0, .long 0, .long 0])), (a 6, .inl (cI, 6, .inr (.inl (fun _ => 0))))] ∧ pw_N U)) (va_Qv (fun (_ : Unit) => True) (fun (_ : Unit) (t : State) => va_P (dC, dI) vwCl [(h0, .inr (9, [.ref (a 0), .ref (a 1), .ref (a 2), .ref (a 3), .ref (a 4), .ref (a 5), .ref (a 6), .long 0, .long 0, .int (nw + 1), .int 0, .int 0, .int 0, .int 0])), (a 5, .inr (3, [.ref b5, .int 0])), (a 3, .inr (4, [.ref b3, .long 0, .long 0, .long 0])), (a 6, .inl (cI, 6, .inr (.inl (fun _ => 0))))] t.heap ∧ va_D (va_A [(h0, .inr (9, [.ref (a 0), .ref (a 1), .ref (a 2), .ref (a 3), .ref (a 4), .ref (a 5), .ref (a 6), .long 0, .long 0, .int nw, .int 0, .int 0, .int 0, .int 0])), (a 5, .inr (3, [.ref b5, .int 0])), (a 3, .inr (4, [.ref b3, .long 0, .long 0, .long 0])), (a 6, .inl (cI, 6, .inr (.inl (fun _ => 0))))] sz) [(h0, .inr (9, [.ref (a 0), .ref (a 1), .ref (a 2), .ref (a 3), .ref (a 4), .ref (a 5), .ref (a 6), .long 0, .long 0, .int (nw + 1), .int 0, .int 0, .int 0, .int 0])), (a 5, .inr (3, [.ref b5, .int 0])), (a 3, .inr (4, [.ref b3, .long 0, .long 0, .long 0])), (a 6, .inl (cI, 6, .inr (.inl (fun _ => 0))))]) (va_A [(h0, .inr (9, [.ref (a 0), .ref (a 1), .ref (a 2), .ref (a 3), .ref (a 4), .ref (a 5), .ref (a 6), .long 0, .long 0, .int nw, .int 0, .int 0, .int 0, .int 0])), (a 5, .inr (3, [.ref b5, .int 0])), (a 3, .inr (4, [.ref b3, .long 0, .long 0, .long 0])), (a 6, .inl (cI, 6, .inr (.inl (fun _ => 0))))] sz)) 0 0 (va_A [(h0, .inr (9, [.ref (a 0), .ref (a 1), .ref (a 2), .ref (a 3), .ref (a 4), .ref (a 5), .ref (a 6), .long 0, .long 0, .int nw, .int 0, .int 0, .int 0, .int 0])), (a 5, .inr (3, [.ref b5, .int 0])), (a 3, .inr (4, [.ref b3, .long 0, .long 0, .long 0])), (a 6, .inl (cI, 6, .inr (.inl (fun _ => 0))))] sz) := by
  refine Met.ofW (cc := cX8_passTick) (maxL := 4) (ret := none) (by decide) rfl ?_
  intro p e s m args below meth c s₁ B hml hv
  obtain ⟨rfl, hsz, hP, hK, hD0, hN⟩ := hv
  have hx := B.exec
  have hb := B.bytes
  have hr := B.returns
  have hts := atoms_spec (ws := wq_passTick) B.pre
  have hown : s.vm.findClass RX8 = some m.cls := findClass_of_methodNamed B.named
  have hlocks := B.notSynchronized
  subst hsz
  have hD := hD0.self (sz := s.heap.size)
  generalize hAe : va_A [(h0, .inr (9, [.ref (a 0), .ref (a 1), .ref (a 2), .ref (a 3), .ref (a 4), .ref (a 5), .ref (a 6), .long 0, .long 0, .int nw, .int 0, .int 0, .int 0, .int 0])), (a 5, .inr (3, [.ref b5, .int 0])), (a 3, .inr (4, [.ref b3, .long 0, .long 0, .long 0])), (a 6, .inl (cI, 6, .inr (.inl (fun _ => 0))))] s.heap.size = A at hD ⊢
  have hA : ∀ q : Nat, s.heap.size ≤ q → A q := fun q h => by rw [← hAe]; exact Or.inr h
  have hS : va_S A s.heap s.heap [] := va_S.rf
  have hP : va_P (dC, dI) vwCl [(h0, .inr (9, [.ref (a 0), .ref (a 1), .ref (a 2), .ref (a 3), .ref (a 4), .ref (a 5), .ref (a 6), .long 0, .long 0, .int nw, .int 0, .int 0, .int 0, .int 0])), (a 5, .inr (3, [.ref b5, .int 0])), (a 3, .inr (4, [.ref b3, .long 0, .long 0, .long 0])), (a 6, .inl (cI, 6, .inr (.inl (fun _ => 0))))] s.heap := hP
  have hl := lv_entry ([.ref h0]) (n := 4) (Nat.le_of_ble_eq_true rfl)
  rw [lg_entry_eq]
  generalize (lg_sl ([.ref h0]) ++ List.replicate (4 - (lg_sl ([.ref h0])).length) Slot.unset).toArray = ls at hl ⊢
  have hl : lv_has ls 4 [(0, .ref h0)] := hl
  refine lv_aload_n hx hb dX8_passTick_0 rfl (lv_at hl 0 rfl) ?_
  refine lv_dup hx hb dX8_passTick_1 rfl ?_
  refine va_get (D := (dC, dI)) (ci := 9) (v := .int nw) (C := RX8) (T := TX8) (N := 14) hx hb hts in_passTick_X8 hown hK hP 0 rfl rfl 9 (by decide) (hts (.fieldLink RX8 67 "ServiceTree" "now" "I") (by decide +kernel)) (fun _ h9 => h9) rfl dX8_passTick_2 ?_
  refine lv_iconst (v := 1) hx hb dX8_passTick_5 (by decide) ?_
  refine lv_iadd hx hb dX8_passTick_6 ?_
  refine va_put (D := (dC, dI)) (ci := 9) (v := .int (nw + 1)) (ty := .int) (C := RX8) (T := TX8) (N := 14) hx hb hts in_passTick_X8 tyX8 tyX8_ok nmX8 hown hK hP hD hS 0 rfl rfl 9 (by decide) (hts (.fieldLink RX8 67 "ServiceTree" "now" "I") (by decide +kernel)) (fun _ h9 => h9) rfl (by decide +kernel) rfl rfl (Nat.le_of_ble_eq_true rfl) dX8_passTick_7 (fun H locs hP hD hS => ?_)
  replace hP : va_P (dC, dI) vwCl [(h0, .inr (9, [.ref (a 0), .ref (a 1), .ref (a 2), .ref (a 3), .ref (a 4), .ref (a 5), .ref (a 6), .long 0, .long 0, .int (nw + 1), .int 0, .int 0, .int 0, .int 0])), (a 5, .inr (3, [.ref b5, .int 0])), (a 3, .inr (4, [.ref b3, .long 0, .long 0, .long 0])), (a 6, .inl (cI, 6, .inr (.inl (fun _ => 0))))] H := hP
  replace hD : va_D A [(h0, .inr (9, [.ref (a 0), .ref (a 1), .ref (a 2), .ref (a 3), .ref (a 4), .ref (a 5), .ref (a 6), .long 0, .long 0, .int (nw + 1), .int 0, .int 0, .int 0, .int 0])), (a 5, .inr (3, [.ref b5, .int 0])), (a 3, .inr (4, [.ref b3, .long 0, .long 0, .long 0])), (a 6, .inl (cI, 6, .inr (.inl (fun _ => 0))))] := hD
  refine lv_aload_n hx hb dX8_passTick_10 rfl (lv_at hl 0 rfl) ?_
  refine va_get (D := (dC, dI)) (ci := 9) (v := .ref (a 6)) (C := RX8) (T := TX8) (N := 14) hx hb hts in_passTick_X8 hown hK hP 0 rfl rfl 6 (by decide) (hts (.fieldLink RX8 53 "ServiceTree" "inState" "[J") (by decide +kernel)) (fun _ h9 => h9) rfl dX8_passTick_11 ?_
  refine lv_iconst (v := 1) hx hb dX8_passTick_14 (by decide) ?_
  refine va_lald hx hb hK hP 3 0 rfl rfl (show ¬ ((1 : Int32) < 0 ∨ 6 ≤ (1 : Int32).toNatClampNeg) by decide) dX8_passTick_15 ?_
  refine lv_topl (fun x_2 ex_2 => ?_)
  obtain rfl : x_2 = 0 := ex_2
  refine lv_aload_n hx hb dX8_passTick_16 rfl (lv_at hl 0 rfl) ?_
  refine va_get (D := (dC, dI)) (ci := 9) (v := .ref (a 6)) (C := RX8) (T := TX8) (N := 14) hx hb hts in_passTick_X8 hown hK hP 0 rfl rfl 6 (by decide) (hts (.fieldLink RX8 53 "ServiceTree" "inState" "[J") (by decide +kernel)) (fun _ h9 => h9) rfl dX8_passTick_17 ?_
  refine lv_iconst (v := 3) hx hb dX8_passTick_20 (by decide) ?_
  refine va_lald hx hb hK hP 3 0 rfl rfl (show ¬ ((3 : Int32) < 0 ∨ 6 ≤ (3 : Int32).toNatClampNeg) by decide) dX8_passTick_21 ?_
  refine lv_topl (fun x_3 ex_3 => ?_)
  obtain rfl : x_3 = 0 := ex_3
  refine lv_lor hx hb dX8_passTick_22 ?_
  refine lv_topl (fun x_4 ex_4 => ?_)
  obtain rfl : x_4 = 0 := ex_4.trans (by decide)
  refine lv_aload_n hx hb dX8_passTick_23 rfl (lv_at hl 0 rfl) ?_
  refine va_get (D := (dC, dI)) (ci := 9) (v := .ref (a 6)) (C := RX8) (T := TX8) (N := 14) hx hb hts in_passTick_X8 hown hK hP 0 rfl rfl 6 (by decide) (hts (.fieldLink RX8 53 "ServiceTree" "inState" "[J") (by decide +kernel)) (fun _ h9 => h9) rfl dX8_passTick_24 ?_
  refine lv_iconst (v := 5) hx hb dX8_passTick_27 (by decide) ?_
  refine va_lald hx hb hK hP 3 0 rfl rfl (show ¬ ((5 : Int32) < 0 ∨ 6 ≤ (5 : Int32).toNatClampNeg) by decide) dX8_passTick_28 ?_
  refine lv_topl (fun x_5 ex_5 => ?_)
  obtain rfl : x_5 = 0 := ex_5
  refine lv_lor hx hb dX8_passTick_29 ?_
  refine lv_topl (fun x_6 ex_6 => ?_)
  obtain rfl : x_6 = 0 := ex_6.trans (by decide)
  refine lv_aload_n hx hb dX8_passTick_30 rfl (lv_at hl 0 rfl) ?_
  refine va_get (D := (dC, dI)) (ci := 9) (v := .long 0) (C := RX8) (T := TX8) (N := 14) hx hb hts in_passTick_X8 hown hK hP 0 rfl rfl 7 (by decide) (hts (.fieldLink RX8 311 "ServiceTree" "living" "J") (by decide +kernel)) (fun _ h9 => h9) rfl dX8_passTick_31 ?_
  refine lv_lor hx hb dX8_passTick_34 ?_
  refine lv_topl (fun x_7 ex_7 => ?_)
  obtain rfl : x_7 = 0 := ex_7.trans (by decide)
  refine lv_lstore_n (lv' := [(1, .long 0), (0, .ref h0)]) hx hb dX8_passTick_35 rfl hl (by decide) rfl (fun ls hl => ?_)
  refine lv_lload_n hx hb dX8_passTick_36 rfl (lv_at hl 0 rfl) ?_
  refine lv_lconst (v := 0) hx hb dX8_passTick_37 (by decide) ?_
  refine W.lcmp hx hb dX8_passTick_38 ?_
  refine lv_topi (fun x_8 ex_8 => ?_)
  obtain rfl : x_8 = 0 := ex_8.trans (by decide)
  refine lv_if_eq (tgt := 95) hx hb dX8_passTick_39 (by decide) (fun _ => ?_) (fun c9 => absurd (by decide) c9)
  refine lv_aload_n hx hb dX8_passTick_95 rfl (lv_at hl 1 rfl) ?_
  have hPc := hP.sub (ws' := [(h0, .inr (9, [.ref (a 0), .ref (a 1), .ref (a 2), .ref (a 3), .ref (a 4), .ref (a 5), .ref (a 6), .long 0, .long 0, .int (nw + 1), .int 0, .int 0, .int 0, .int 0])), (a 5, .inr (3, [.ref b5, .int 0]))]) [0, 1] rfl
  have hDc := hD.sub (ws' := [(h0, .inr (9, [.ref (a 0), .ref (a 1), .ref (a 2), .ref (a 3), .ref (a 4), .ref (a 5), .ref (a 6), .long 0, .long 0, .int (nw + 1), .int 0, .int 0, .int 0, .int 0])), (a 5, .inr (3, [.ref b5, .int 0]))]) [0, 1] (by decide) rfl
  have hKc := hK.sub (tys' := []) [] rfl
  have hFc := va_free (wc := [(h0, .inr (9, [.ref (a 0), .ref (a 1), .ref (a 2), .ref (a 3), .ref (a 4), .ref (a 5), .ref (a 6), .long 0, .long 0, .int (nw + 1), .int 0, .int 0, .int 0, .int 0])), (a 5, .inr (3, [.ref b5, .int 0]))]) hD hS hA [0, 1] rfl
  refine va_callv (va_runV (As := []) (rest := []) ⟨hx, hb, hml, hown, hts⟩ (c_stopTheLacking l dC dI h0 a (nw + 1) b5 H.size) (cwV 0 hts wc_passTick_stopTheLacking_317 rfl rfl rfl (by decide +kernel) ⟨Nat.le_of_ble_eq_true rfl, Nat.le_of_ble_eq_true rfl⟩) ⟨fun a U g mk q => by obtain ⟨q0, q1, qP, qK, qD, qN⟩ := q; exact ⟨q0, q1, qP, va_K.moved (u := U) (U := U.calling g mk a) (Vm.Alike.refl U.vm) qK, qD, pw_N.same (u := U) (U := U.calling g mk a) rfl qN⟩, va_recv hKc hPc (ci := 9) (q0 := 0) rfl rfl, fun U hU hW => ⟨rfl, by rw [hU], by rw [hU]; exact hPc, va_K.moved hW.alike hKc, hDc.weaken (fun _ _ _ _ => trivial), pw_N.warm hW hN⟩⟩ rfl rfl hl.1 rfl (lv_room (Nat.le_of_ble_eq_true rfl)) dX8_passTick_96 ⟨Nat.le_of_ble_eq_true rfl, Nat.le_of_ble_eq_true rfl⟩) hS (fun q _ h => hFc q h) hFc (fun u t H1 locs ht hvm hw hB hz1 hk1 hS => ?_)
  obtain ⟨hP1, hD1⟩ := hB
  rw [ht] at hP1
  obtain ⟨hP, hD⟩ := va_join (wr := [(a 3, .inr (4, [.ref b3, .long 0, .long 0, .long 0])), (a 6, .inl (cI, 6, .inr (.inl (fun _ => 0))))]) (w1 := [(h0, .inr (9, [.ref (a 0), .ref (a 1), .ref (a 2), .ref (a 3), .ref (a 4), .ref (a 5), .ref (a 6), .long 0, .long 0, .int (nw + 1), .int 0, .int 0, .int 0, .int 0])), (a 5, .inr (3, [.ref b5, .int 0]))]) hP hD [0, 1] [2, 3] rfl rfl (by decide) (by decide) hk1 hFc hP1 hD1
  generalize H1 = H at hP hS ⊢
  replace hP : va_P (dC, dI) vwCl [(a 3, .inr (4, [.ref b3, .long 0, .long 0, .long 0])), (a 6, .inl (cI, 6, .inr (.inl (fun _ => 0)))), (h0, .inr (9, [.ref (a 0), .ref (a 1), .ref (a 2), .ref (a 3), .ref (a 4), .ref (a 5), .ref (a 6), .long 0, .long 0, .int (nw + 1), .int 0, .int 0, .int 0, .int 0])), (a 5, .inr (3, [.ref b5, .int 0]))] H := hP
  replace hD : va_D A [(a 3, .inr (4, [.ref b3, .long 0, .long 0, .long 0])), (a 6, .inl (cI, 6, .inr (.inl (fun _ => 0)))), (h0, .inr (9, [.ref (a 0), .ref (a 1), .ref (a 2), .ref (a 3), .ref (a 4), .ref (a 5), .ref (a 6), .long 0, .long 0, .int (nw + 1), .int 0, .int 0, .int 0, .int 0])), (a 5, .inr (3, [.ref b5, .int 0]))] := hD
  try dsimp only at hw
  refine lv_aload_n hx hb dX8_passTick_99 rfl (lv_at hl 1 rfl) ?_
  have hPc := hP.sub (ws' := [(h0, .inr (9, [.ref (a 0), .ref (a 1), .ref (a 2), .ref (a 3), .ref (a 4), .ref (a 5), .ref (a 6), .long 0, .long 0, .int (nw + 1), .int 0, .int 0, .int 0, .int 0])), (a 6, .inl (cI, 6, .inr (.inl (fun _ => 0))))]) [2, 1] rfl
  have hDc := hD.sub (ws' := [(h0, .inr (9, [.ref (a 0), .ref (a 1), .ref (a 2), .ref (a 3), .ref (a 4), .ref (a 5), .ref (a 6), .long 0, .long 0, .int (nw + 1), .int 0, .int 0, .int 0, .int 0])), (a 6, .inl (cI, 6, .inr (.inl (fun _ => 0))))]) [2, 1] (by decide) rfl
  have hKc := hK.sub (tys' := [(cI, .long)]) [0] rfl
  have hFc := va_free (wc := [(h0, .inr (9, [.ref (a 0), .ref (a 1), .ref (a 2), .ref (a 3), .ref (a 4), .ref (a 5), .ref (a 6), .long 0, .long 0, .int (nw + 1), .int 0, .int 0, .int 0, .int 0])), (a 6, .inl (cI, 6, .inr (.inl (fun _ => 0))))]) hD hS hA [2, 1] rfl
  refine va_callv (va_runV (As := []) (rest := []) ⟨hx, hb, hml, hown, hts⟩ (c_readLetters l dC dI h0 a (nw + 1) cI H.size) (cwV 0 hts wc_passTick_readLetters_320 rfl rfl rfl (by decide +kernel) ⟨Nat.le_of_ble_eq_true rfl, Nat.le_of_ble_eq_true rfl⟩) ⟨fun a U g mk q => by obtain ⟨q0, q1, qP, qK, qD, qN⟩ := q; exact ⟨q0, q1, qP, va_K.moved (u := U) (U := U.calling g mk a) (Vm.Alike.refl U.vm) qK, qD, pw_N.same (u := U) (U := U.calling g mk a) rfl qN⟩, va_recv hKc hPc (ci := 9) (q0 := 0) rfl rfl, fun U hU hW => ⟨rfl, by rw [hU], by rw [hU]; exact hPc, va_K.moved hW.alike hKc, hDc.weaken (fun _ _ _ _ => trivial), pw_N.warm hW hN⟩⟩ rfl rfl hl.1 rfl (lv_room (Nat.le_of_ble_eq_true rfl)) dX8_passTick_100 ⟨Nat.le_of_ble_eq_true rfl, Nat.le_of_ble_eq_true rfl⟩) hS (fun q _ h => hFc q h) hFc (fun u t H1 locs ht hvm hw hB hz1 hk1 hS => ?_)
  obtain ⟨hP1, hD1⟩ := hB
  rw [ht] at hP1
  obtain ⟨hP, hD⟩ := va_join (wr := [(a 3, .inr (4, [.ref b3, .long 0, .long 0, .long 0])), (a 5, .inr (3, [.ref b5, .int 0]))]) (w1 := [(h0, .inr (9, [.ref (a 0), .ref (a 1), .ref (a 2), .ref (a 3), .ref (a 4), .ref (a 5), .ref (a 6), .long 0, .long 0, .int (nw + 1), .int 0, .int 0, .int 0, .int 0])), (a 6, .inl (cI, 6, .inr (.inl (fun _ => 0))))]) hP hD [2, 1] [0, 3] rfl rfl (by decide) (by decide) hk1 hFc hP1 hD1
  generalize H1 = H at hP hS ⊢
  replace hP : va_P (dC, dI) vwCl [(a 3, .inr (4, [.ref b3, .long 0, .long 0, .long 0])), (a 5, .inr (3, [.ref b5, .int 0])), (h0, .inr (9, [.ref (a 0), .ref (a 1), .ref (a 2), .ref (a 3), .ref (a 4), .ref (a 5), .ref (a 6), .long 0, .long 0, .int (nw + 1), .int 0, .int 0, .int 0, .int 0])), (a 6, .inl (cI, 6, .inr (.inl (fun _ => 0))))] H := hP
  replace hD : va_D A [(a 3, .inr (4, [.ref b3, .long 0, .long 0, .long 0])), (a 5, .inr (3, [.ref b5, .int 0])), (h0, .inr (9, [.ref (a 0), .ref (a 1), .ref (a 2), .ref (a 3), .ref (a 4), .ref (a 5), .ref (a 6), .long 0, .long 0, .int (nw + 1), .int 0, .int 0, .int 0, .int 0])), (a 6, .inl (cI, 6, .inr (.inl (fun _ => 0))))] := hD
  try dsimp only at hw
  refine lv_aload_n hx hb dX8_passTick_103 rfl (lv_at hl 1 rfl) ?_
  have hPc := hP.sub (ws' := [(h0, .inr (9, [.ref (a 0), .ref (a 1), .ref (a 2), .ref (a 3), .ref (a 4), .ref (a 5), .ref (a 6), .long 0, .long 0, .int (nw + 1), .int 0, .int 0, .int 0, .int 0])), (a 3, .inr (4, [.ref b3, .long 0, .long 0, .long 0]))]) [2, 0] rfl
  have hDc := hD.sub (ws' := [(h0, .inr (9, [.ref (a 0), .ref (a 1), .ref (a 2), .ref (a 3), .ref (a 4), .ref (a 5), .ref (a 6), .long 0, .long 0, .int (nw + 1), .int 0, .int 0, .int 0, .int 0])), (a 3, .inr (4, [.ref b3, .long 0, .long 0, .long 0]))]) [2, 0] (by decide) rfl
  have hKc := hK.sub (tys' := []) [] rfl
  have hFc := va_free (wc := [(h0, .inr (9, [.ref (a 0), .ref (a 1), .ref (a 2), .ref (a 3), .ref (a 4), .ref (a 5), .ref (a 6), .long 0, .long 0, .int (nw + 1), .int 0, .int 0, .int 0, .int 0])), (a 3, .inr (4, [.ref b3, .long 0, .long 0, .long 0]))]) hD hS hA [2, 0] rfl
  refine va_callv (va_runV (As := []) (rest := []) ⟨hx, hb, hml, hown, hts⟩ (c_beginJobs l dC dI h0 a (nw + 1) b3 H.size) (cwV 0 hts wc_passTick_beginJobs_260 rfl rfl rfl (by decide +kernel) ⟨Nat.le_of_ble_eq_true rfl, Nat.le_of_ble_eq_true rfl⟩) ⟨fun a U g mk q => by obtain ⟨q0, q1, qP, qK, qD, qN⟩ := q; exact ⟨q0, q1, qP, va_K.moved (u := U) (U := U.calling g mk a) (Vm.Alike.refl U.vm) qK, qD, pw_N.same (u := U) (U := U.calling g mk a) rfl qN⟩, va_recv hKc hPc (ci := 9) (q0 := 0) rfl rfl, fun U hU hW => ⟨rfl, by rw [hU], by rw [hU]; exact hPc, va_K.moved hW.alike hKc, hDc.weaken (fun _ _ _ _ => trivial), pw_N.warm hW hN⟩⟩ rfl rfl hl.1 rfl (lv_room (Nat.le_of_ble_eq_true rfl)) dX8_passTick_104 ⟨Nat.le_of_ble_eq_true rfl, Nat.le_of_ble_eq_true rfl⟩) hS (fun q _ h => hFc q h) hFc (fun u t H1 locs ht hvm hw hB hz1 hk1 hS => ?_)
  obtain ⟨hP1, hD1⟩ := hB
  rw [ht] at hP1
  obtain ⟨hP, hD⟩ := va_join (wr := [(a 5, .inr (3, [.ref b5, .int 0])), (a 6, .inl (cI, 6, .inr (.inl (fun _ => 0))))]) (w1 := [(h0, .inr (9, [.ref (a 0), .ref (a 1), .ref (a 2), .ref (a 3), .ref (a 4), .ref (a 5), .ref (a 6), .long 0, .long 0, .int (nw + 1), .int 0, .int 0, .int 0, .int 0])), (a 3, .inr (4, [.ref b3, .long 0, .long 0, .long 0]))]) hP hD [2, 0] [1, 3] rfl rfl (by decide) (by decide) hk1 hFc hP1 hD1
  generalize H1 = H at hP hS ⊢
  replace hP : va_P (dC, dI) vwCl [(a 5, .inr (3, [.ref b5, .int 0])), (a 6, .inl (cI, 6, .inr (.inl (fun _ => 0)))), (h0, .inr (9, [.ref (a 0), .ref (a 1), .ref (a 2), .ref (a 3), .ref (a 4), .ref (a 5), .ref (a 6), .long 0, .long 0, .int (nw + 1), .int 0, .int 0, .int 0, .int 0])), (a 3, .inr (4, [.ref b3, .long 0, .long 0, .long 0]))] H := hP
  replace hD : va_D A [(a 5, .inr (3, [.ref b5, .int 0])), (a 6, .inl (cI, 6, .inr (.inl (fun _ => 0)))), (h0, .inr (9, [.ref (a 0), .ref (a 1), .ref (a 2), .ref (a 3), .ref (a 4), .ref (a 5), .ref (a 6), .long 0, .long 0, .int (nw + 1), .int 0, .int 0, .int 0, .int 0])), (a 3, .inr (4, [.ref b3, .long 0, .long 0, .long 0]))] := hD
  try dsimp only at hw
  have hP9 := hP.sub (ws' := [(h0, .inr (9, [.ref (a 0), .ref (a 1), .ref (a 2), .ref (a 3), .ref (a 4), .ref (a 5), .ref (a 6), .long 0, .long 0, .int (nw + 1), .int 0, .int 0, .int 0, .int 0])), (a 5, .inr (3, [.ref b5, .int 0])), (a 3, .inr (4, [.ref b3, .long 0, .long 0, .long 0])), (a 6, .inl (cI, 6, .inr (.inl (fun _ => 0))))]) [2, 0, 3, 1] rfl
  have hD9 := hD.sub (ws' := [(h0, .inr (9, [.ref (a 0), .ref (a 1), .ref (a 2), .ref (a 3), .ref (a 4), .ref (a 5), .ref (a 6), .long 0, .long 0, .int (nw + 1), .int 0, .int 0, .int 0, .int 0])), (a 5, .inr (3, [.ref b5, .int 0])), (a 3, .inr (4, [.ref b3, .long 0, .long 0, .long 0])), (a 6, .inl (cI, 6, .inr (.inl (fun _ => 0))))]) [2, 0, 3, 1] (by decide) rfl
  exact W.vret hx hb hr (fun t ht hW => ⟨⟨(), rfl, trivial, by rw [ht]; exact hP9, hD9⟩, hS.F ht⟩) hS.2.2 dX8_passTick_107
def wq_t_tick : List Cond := [.code yX8_tick cX8_tick 3 (some .int), .fieldLink RX8 67 "ServiceTree" "now" "I", .methodLink RX8 57 yX8_within, .static yX8_within, .initialized RX8, .methodLink RX8 139 yX8_passTick, .instanceMethod yX8_passTick, .selects RX8 yX8_passTick yX8_passTick] ++ (wsX80 ++ (wq_within ++ (wq_passTick)))
theorem in_t_tick_X8 : ∀ w ∈ wsX80, w ∈ wq_t_tick := fun _ h => List.mem_append_right _ (List.mem_append_left _ (h))
set_option maxRecDepth 20000 in
theorem wi_t_tick : ∀ w ∈ wq_t_tick, w ∈ lw_tbl := List.forall_mem_append.mpr ⟨(by decide +kernel), List.forall_mem_append.mpr ⟨inKX8, List.forall_mem_append.mpr ⟨wi_within, wi_passTick⟩⟩⟩
set_option maxRecDepth 20000 in
theorem wg_t_tick : GoodIn wq_t_tick wq_t_tick := goodIn_sub (fun _ h => h) (by decide +kernel)
set_option maxRecDepth 20000 in
theorem wc_t_tick_within_57 : GoodIn wq_t_tick (va_wsS RX8 57 yX8_within wq_within) := goodIn_app (goodIn_of _ (by decide +kernel)) (fun w h => ⟨List.mem_append_right _ (List.mem_append_right _ (List.mem_append_left _ (h))), (wg_within w h).2⟩)
set_option maxRecDepth 20000 in
theorem wc_t_tick_passTick_139 : GoodIn wq_t_tick (wsV RX8 139 RX8 yX8_passTick wq_passTick) := goodIn_app (goodIn_of _ (by decide +kernel)) (fun w h => ⟨List.mem_append_right _ (List.mem_append_right _ (List.mem_append_right _ (h))), (wg_passTick w h).2⟩)
set_option maxHeartbeats 4000000 in
set_option maxRecDepth 100000 in
theorem c_t_tick (l : Launch) (dC : Nat → ClassId) (dI : Nat → Nat → Nat) (h0 : Nat) (a : Nat → Nat) (b5 : Nat) (b3 : Nat) (cI : ClassId) (p0 : Int32) (sz : Nat) : Met l yX8_tick wq_t_tick ({ frames := 3, cells := 0, slots := 0, locals := 65 }) (va_Pc [.ref h0, .int p0] (fun U => U.heap.size = sz ∧ va_P (dC, dI) vwCl [(h0, .inr (9, [.ref (a 0), .ref (a 1), .ref (a 2), .ref (a 3), .ref (a 4), .ref (a 5), .ref (a 6), .long 0, .long 0, .int 0, .int 0, .int 0, .int 0, .int 0])), (a 5, .inr (3, [.ref b5, .int 0])), (a 3, .inr (4, [.ref b3, .long 0, .long 0, .long 0])), (a 6, .inl (cI, 6, .inr (.inl (fun _ => 0))))] U.heap ∧ va_K (dC, dI) vwCl [(cI, .long)] U ∧ va_D (fun _ => True) [(h0, .inr (9, [.ref (a 0), .ref (a 1), .ref (a 2), .ref (a 3), .ref (a 4), .ref (a 5), .ref (a 6), .long 0, .long 0, .int 0, .int 0, .int 0, .int 0, .int 0])), (a 5, .inr (3, [.ref b5, .int 0])), (a 3, .inr (4, [.ref b3, .long 0, .long 0, .long 0])), (a 6, .inl (cI, 6, .inr (.inl (fun _ => 0))))] ∧ pw_N U)) (va_Qi (fun (r : Int32) (_ : Unit) => r = if 1 ≤ p0 ∧ p0 ≤ 1000 then p0 else -1) (fun (_ : Unit) (t : State) => True) (va_A [(h0, .inr (9, [.ref (a 0), .ref (a 1), .ref (a 2), .ref (a 3), .ref (a 4), .ref (a 5), .ref (a 6), .long 0, .long 0, .int 0, .int 0, .int 0, .int 0, .int 0])), (a 5, .inr (3, [.ref b5, .int 0])), (a 3, .inr (4, [.ref b3, .long 0, .long 0, .long 0])), (a 6, .inl (cI, 6, .inr (.inl (fun _ => 0))))] sz)) 0 0 (va_A [(h0, .inr (9, [.ref (a 0), .ref (a 1), .ref (a 2), .ref (a 3), .ref (a 4), .ref (a 5), .ref (a 6), .long 0, .long 0, .int 0, .int 0, .int 0, .int 0, .int 0])), (a 5, .inr (3, [.ref b5, .int 0])), (a 3, .inr (4, [.ref b3, .long 0, .long 0, .long 0])), (a 6, .inl (cI, 6, .inr (.inl (fun _ => 0))))] sz) := by
  refine Met.ofW (cc := cX8_tick) (maxL := 3) (ret := (some .int)) (by decide) rfl ?_
  intro p e s m args below meth c s₁ B hml hv
  obtain ⟨rfl, hsz, hP, hK, hD0, hN⟩ := hv
  have hx := B.exec
  have hb := B.bytes
  have hr := B.returns
  have hts := atoms_spec (ws := wq_t_tick) B.pre
  have hown : s.vm.findClass RX8 = some m.cls := findClass_of_methodNamed B.named
  have hlocks := B.notSynchronized
  subst hsz
  have hD := hD0.self (sz := s.heap.size)
  generalize hAe : va_A [(h0, .inr (9, [.ref (a 0), .ref (a 1), .ref (a 2), .ref (a 3), .ref (a 4), .ref (a 5), .ref (a 6), .long 0, .long 0, .int 0, .int 0, .int 0, .int 0, .int 0])), (a 5, .inr (3, [.ref b5, .int 0])), (a 3, .inr (4, [.ref b3, .long 0, .long 0, .long 0])), (a 6, .inl (cI, 6, .inr (.inl (fun _ => 0))))] s.heap.size = A at hD ⊢
  have hA : ∀ q : Nat, s.heap.size ≤ q → A q := fun q h => by rw [← hAe]; exact Or.inr h
  have hS : va_S A s.heap s.heap [] := va_S.rf
  have hP : va_P (dC, dI) vwCl [(h0, .inr (9, [.ref (a 0), .ref (a 1), .ref (a 2), .ref (a 3), .ref (a 4), .ref (a 5), .ref (a 6), .long 0, .long 0, .int 0, .int 0, .int 0, .int 0, .int 0])), (a 5, .inr (3, [.ref b5, .int 0])), (a 3, .inr (4, [.ref b3, .long 0, .long 0, .long 0])), (a 6, .inl (cI, 6, .inr (.inl (fun _ => 0))))] s.heap := hP
  have hl := lv_entry ([.ref h0, .int p0]) (n := 3) (Nat.le_of_ble_eq_true rfl)
  rw [lg_entry_eq]
  generalize (lg_sl ([.ref h0, .int p0]) ++ List.replicate (3 - (lg_sl ([.ref h0, .int p0])).length) Slot.unset).toArray = ls at hl ⊢
  have hl : lv_has ls 3 [(0, .ref h0), (1, .int p0)] := hl
  refine lv_iload_n hx hb dX8_tick_0 rfl (lv_at hl 1 rfl) ?_
  refine lv_iconst (v := 1) hx hb dX8_tick_1 (by decide) ?_
  refine lv_sipush (v := 1000) hx hb dX8_tick_2 (by decide) ?_
  have hPc := hP.sub (ws' := []) [] rfl
  have hDc := hD.sub (ws' := []) [] (by decide) rfl
  have hKc := hK.sub (tys' := []) [] rfl
  have hFc := va_free (wc := []) hD hS hA [] rfl
  refine va_calli (va_runS (As := [.int p0, .int 1, .int 1000]) (rest := []) ⟨hx, hb, hml, hown, hts⟩ (c_within l dC dI p0 1 1000 s.heap.size) (va_cwS 3 hts wc_t_tick_within_57 rfl rfl rfl (by decide +kernel) ⟨Nat.le_of_ble_eq_true rfl, Nat.le_of_ble_eq_true rfl⟩) ⟨fun a U g mk q => by obtain ⟨q0, q1, qP, qK, qD, qN⟩ := q; exact ⟨q0, q1, qP, va_K.moved (u := U) (U := U.calling g mk a) (Vm.Alike.refl U.vm) qK, qD, pw_N.same (u := U) (U := U.calling g mk a) rfl qN⟩, fun U hU hW => ⟨rfl, by rw [hU], by rw [hU]; exact hPc, va_K.moved hW.alike hKc, hDc.weaken (fun _ _ _ _ => trivial), pw_N.warm hW hN⟩⟩ rfl rfl hl.1 rfl (lv_room (Nat.le_of_ble_eq_true rfl)) dX8_tick_5 ⟨Nat.le_of_ble_eq_true rfl, Nat.le_of_ble_eq_true rfl⟩) hS (fun q _ h => hFc q h) hFc (fun r_1 u t H1 locs ht hvm hw hB hz1 hk1 hS => ?_)
  obtain ⟨hP1, hD1⟩ := hB
  rw [ht] at hP1
  obtain ⟨hP, hD⟩ := va_join (wr := [(h0, .inr (9, [.ref (a 0), .ref (a 1), .ref (a 2), .ref (a 3), .ref (a 4), .ref (a 5), .ref (a 6), .long 0, .long 0, .int 0, .int 0, .int 0, .int 0, .int 0])), (a 5, .inr (3, [.ref b5, .int 0])), (a 3, .inr (4, [.ref b3, .long 0, .long 0, .long 0])), (a 6, .inl (cI, 6, .inr (.inl (fun _ => 0))))]) (w1 := []) hP hD [] [0, 1, 2, 3] rfl rfl (by decide) (by decide) hk1 hFc hP1 hD1
  generalize H1 = H at hP hS ⊢
  replace hP : va_P (dC, dI) vwCl [(h0, .inr (9, [.ref (a 0), .ref (a 1), .ref (a 2), .ref (a 3), .ref (a 4), .ref (a 5), .ref (a 6), .long 0, .long 0, .int 0, .int 0, .int 0, .int 0, .int 0])), (a 5, .inr (3, [.ref b5, .int 0])), (a 3, .inr (4, [.ref b3, .long 0, .long 0, .long 0])), (a 6, .inl (cI, 6, .inr (.inl (fun _ => 0))))] H := hP
  replace hD : va_D A [(h0, .inr (9, [.ref (a 0), .ref (a 1), .ref (a 2), .ref (a 3), .ref (a 4), .ref (a 5), .ref (a 6), .long 0, .long 0, .int 0, .int 0, .int 0, .int 0, .int 0])), (a 5, .inr (3, [.ref b5, .int 0])), (a 3, .inr (4, [.ref b3, .long 0, .long 0, .long 0])), (a 6, .inl (cI, 6, .inr (.inl (fun _ => 0))))] := hD
  try dsimp only at hw
  rcases Classical.em (1 ≤ p0 ∧ p0 ≤ 1000) with h_2 | h_2
  · obtain rfl : r_1 = 1 := hw.trans (if_pos h_2)
    refine lv_if_ne (tgt := 13) hx hb dX8_tick_8 (by decide) (fun _ => ?_) (fun c9 => absurd c9 (by decide))
    refine lv_iconst (v := 0) hx hb dX8_tick_13 (by decide) ?_
    refine lv_istore_n (lv' := [(2, .int 0), (0, .ref h0), (1, .int p0)]) hx hb dX8_tick_14 rfl hl (by decide) rfl (fun ls hl => ?_)
    have hok : 1 ≤ p0 ∧ p0 ≤ 1000 := by have k0 := h_2; simp only [p1_le, p1_lt, p1_eq, p1_m6, p1_m1, p1_0, p1_1, p1_2, p1_3, p1_4, p1_5, p1_6, p1_7, p1_8, p1_9, p1_10, p1_11, p1_12, p1_13, p1_14, p1_15, p1_16, p1_17, p1_18, p1_19, p1_20, p1_40, p1_50, p1_200, p1_1000] at k0 ⊢; omega
    obtain ⟨N, hNb, eN⟩ := nI_of2 (x := p0) (M := 1000) (n := 1000) (by decide) (by have k0 := hok; simp only [p1_le, p1_lt, p1_eq, p1_m6, p1_m1, p1_0, p1_1, p1_2, p1_3, p1_4, p1_5, p1_6, p1_7, p1_8, p1_9, p1_10, p1_11, p1_12, p1_13, p1_14, p1_15, p1_16, p1_17, p1_18, p1_19, p1_20, p1_40, p1_50, p1_200, p1_1000] at k0 ⊢; omega) hok.2
    subst eN
    obtain ⟨i, hi⟩ : ∃ i : Nat, i = 0 := ⟨0, rfl⟩
    obtain ⟨k, hk⟩ : ∃ k : Nat, i + k = N := ⟨N, by omega⟩
    replace hP : va_P (dC, dI) vwCl [(h0, .inr (9, [.ref (a 0), .ref (a 1), .ref (a 2), .ref (a 3), .ref (a 4), .ref (a 5), .ref (a 6), .long 0, .long 0, .int (nI i), .int 0, .int 0, .int 0, .int 0])), (a 5, .inr (3, [.ref b5, .int 0])), (a 3, .inr (4, [.ref b3, .long 0, .long 0, .long 0])), (a 6, .inl (cI, 6, .inr (.inl (fun _ => 0))))] H := by first | (rw [hi]; exact hP) | exact hP
    replace hD : va_D A [(h0, .inr (9, [.ref (a 0), .ref (a 1), .ref (a 2), .ref (a 3), .ref (a 4), .ref (a 5), .ref (a 6), .long 0, .long 0, .int (nI i), .int 0, .int 0, .int 0, .int 0])), (a 5, .inr (3, [.ref b5, .int 0])), (a 3, .inr (4, [.ref b3, .long 0, .long 0, .long 0])), (a 6, .inl (cI, 6, .inr (.inl (fun _ => 0))))] := by first | (rw [hi]; exact hD) | exact hD
    replace hl : lv_has ls 3 [(2, .int (nI i)), (0, .ref h0), (1, .int (nI N))] := by rw [hi]; exact hl
    clear hi
    induction k generalizing i H locs ls with
    | zero =>
      refine lv_iload_n hx hb dX8_tick_15 rfl (lv_at hl 0 rfl) ?_
      refine lv_iload_n hx hb dX8_tick_16 rfl (lv_at hl 2 rfl) ?_
      refine lv_icmp_ge (tgt := 30) hx hb dX8_tick_17 (by decide) (fun _ => ?_) (fun c9 => absurd (show (nI N : Int32) ≤ nI i by rw [show i = N by omega]; exact Int32.le_refl _) c9)
      refine lv_aload_n hx hb dX8_tick_30 rfl (lv_at hl 1 rfl) ?_
      refine va_get (D := (dC, dI)) (ci := 9) (v := .int (nI i)) (C := RX8) (T := TX8) (N := 14) hx hb hts in_t_tick_X8 hown hK hP 0 rfl rfl 9 (by decide) (hts (.fieldLink RX8 67 "ServiceTree" "now" "I") (by decide +kernel)) (fun _ h9 => h9) rfl dX8_tick_31 ?_
      exact W.iret (v := (nI i)) hx hb hr (fun t ht hW => ⟨⟨(nI i), (), rfl, (by rw [if_pos hok, show i = N by omega]), trivial⟩, hS.F ht⟩) hS.2.2 dX8_tick_34
    | succ k ih =>
      refine lv_iload_n hx hb dX8_tick_15 rfl (lv_at hl 0 rfl) ?_
      refine lv_iload_n hx hb dX8_tick_16 rfl (lv_at hl 2 rfl) ?_
      refine lv_icmp_ge (tgt := 30) hx hb dX8_tick_17 (by decide) (fun c9 => absurd c9 (show ¬ (nI N : Int32) ≤ nI i from nI_ge (by omega) (by omega))) (fun _ => ?_)
      refine lv_aload_n hx hb dX8_tick_20 rfl (lv_at hl 1 rfl) ?_
      have hPc := hP.sub (ws' := [(h0, .inr (9, [.ref (a 0), .ref (a 1), .ref (a 2), .ref (a 3), .ref (a 4), .ref (a 5), .ref (a 6), .long 0, .long 0, .int (nI i), .int 0, .int 0, .int 0, .int 0])), (a 5, .inr (3, [.ref b5, .int 0])), (a 3, .inr (4, [.ref b3, .long 0, .long 0, .long 0])), (a 6, .inl (cI, 6, .inr (.inl (fun _ => 0))))]) [0, 1, 2, 3] rfl
      have hDc := hD.sub (ws' := [(h0, .inr (9, [.ref (a 0), .ref (a 1), .ref (a 2), .ref (a 3), .ref (a 4), .ref (a 5), .ref (a 6), .long 0, .long 0, .int (nI i), .int 0, .int 0, .int 0, .int 0])), (a 5, .inr (3, [.ref b5, .int 0])), (a 3, .inr (4, [.ref b3, .long 0, .long 0, .long 0])), (a 6, .inl (cI, 6, .inr (.inl (fun _ => 0))))]) [0, 1, 2, 3] (by decide) rfl
      have hKc := hK.sub (tys' := [(cI, .long)]) [0] rfl
      have hFc := va_free (wc := [(h0, .inr (9, [.ref (a 0), .ref (a 1), .ref (a 2), .ref (a 3), .ref (a 4), .ref (a 5), .ref (a 6), .long 0, .long 0, .int (nI i), .int 0, .int 0, .int 0, .int 0])), (a 5, .inr (3, [.ref b5, .int 0])), (a 3, .inr (4, [.ref b3, .long 0, .long 0, .long 0])), (a 6, .inl (cI, 6, .inr (.inl (fun _ => 0))))]) hD hS hA [0, 1, 2, 3] rfl
      refine va_callv (va_runV (As := []) (rest := []) ⟨hx, hb, hml, hown, hts⟩ (c_passTick l dC dI h0 a (nI i) b5 b3 cI H.size) (cwV 0 hts wc_t_tick_passTick_139 rfl rfl rfl (by decide +kernel) ⟨Nat.le_of_ble_eq_true rfl, Nat.le_of_ble_eq_true rfl⟩) ⟨fun a U g mk q => by obtain ⟨q0, q1, qP, qK, qD, qN⟩ := q; exact ⟨q0, q1, qP, va_K.moved (u := U) (U := U.calling g mk a) (Vm.Alike.refl U.vm) qK, qD, pw_N.same (u := U) (U := U.calling g mk a) rfl qN⟩, va_recv hKc hPc (ci := 9) (q0 := 0) rfl rfl, fun U hU hW => ⟨rfl, by rw [hU], by rw [hU]; exact hPc, va_K.moved hW.alike hKc, hDc.weaken (fun _ _ _ _ => trivial), pw_N.warm hW hN⟩⟩ rfl rfl hl.1 rfl (lv_room (Nat.le_of_ble_eq_true rfl)) dX8_tick_21 ⟨Nat.le_of_ble_eq_true rfl, Nat.le_of_ble_eq_true rfl⟩) hS (fun q _ h => hFc q h) hFc (fun u t H1 locs ht hvm hw hB hz1 hk1 hS => ?_)
      obtain ⟨hP1, hD1⟩ := hB
      rw [ht] at hP1
      obtain ⟨hP, hD⟩ := va_join (wr := []) (w1 := [(h0, .inr (9, [.ref (a 0), .ref (a 1), .ref (a 2), .ref (a 3), .ref (a 4), .ref (a 5), .ref (a 6), .long 0, .long 0, .int ((nI i) + 1), .int 0, .int 0, .int 0, .int 0])), (a 5, .inr (3, [.ref b5, .int 0])), (a 3, .inr (4, [.ref b3, .long 0, .long 0, .long 0])), (a 6, .inl (cI, 6, .inr (.inl (fun _ => 0))))]) hP hD [0, 1, 2, 3] [] rfl rfl (by decide) (by decide) hk1 hFc hP1 hD1
      generalize H1 = H at hP hS ⊢
      replace hP : va_P (dC, dI) vwCl [(h0, .inr (9, [.ref (a 0), .ref (a 1), .ref (a 2), .ref (a 3), .ref (a 4), .ref (a 5), .ref (a 6), .long 0, .long 0, .int ((nI i) + 1), .int 0, .int 0, .int 0, .int 0])), (a 5, .inr (3, [.ref b5, .int 0])), (a 3, .inr (4, [.ref b3, .long 0, .long 0, .long 0])), (a 6, .inl (cI, 6, .inr (.inl (fun _ => 0))))] H := hP
      replace hD : va_D A [(h0, .inr (9, [.ref (a 0), .ref (a 1), .ref (a 2), .ref (a 3), .ref (a 4), .ref (a 5), .ref (a 6), .long 0, .long 0, .int ((nI i) + 1), .int 0, .int 0, .int 0, .int 0])), (a 5, .inr (3, [.ref b5, .int 0])), (a 3, .inr (4, [.ref b3, .long 0, .long 0, .long 0])), (a 6, .inl (cI, 6, .inr (.inl (fun _ => 0))))] := hD
      try dsimp only at hw
      refine lv_iinc (v := ((nI i) + 1)) (lv' := [(2, .int ((nI i) + 1)), (0, .ref h0), (1, .int (nI N))]) hx hb dX8_tick_24 hl (k := 0) rfl rfl (by decide) rfl (fun ls hl => ?_)
      refine lv_goto (tgt := 15) hx hb dX8_tick_27 (by decide) ?_
      have hP8 : va_P (dC, dI) vwCl [(h0, .inr (9, [.ref (a 0), .ref (a 1), .ref (a 2), .ref (a 3), .ref (a 4), .ref (a 5), .ref (a 6), .long 0, .long 0, .int (nI (i + 1)), .int 0, .int 0, .int 0, .int 0])), (a 5, .inr (3, [.ref b5, .int 0])), (a 3, .inr (4, [.ref b3, .long 0, .long 0, .long 0])), (a 6, .inl (cI, 6, .inr (.inl (fun _ => 0))))] H := by first | (rw [nI_succ]; exact hP.sub [0, 1, 2, 3] rfl) | exact hP.sub [0, 1, 2, 3] rfl
      have hD8 : va_D A [(h0, .inr (9, [.ref (a 0), .ref (a 1), .ref (a 2), .ref (a 3), .ref (a 4), .ref (a 5), .ref (a 6), .long 0, .long 0, .int (nI (i + 1)), .int 0, .int 0, .int 0, .int 0])), (a 5, .inr (3, [.ref b5, .int 0])), (a 3, .inr (4, [.ref b3, .long 0, .long 0, .long 0])), (a 6, .inl (cI, 6, .inr (.inl (fun _ => 0))))] := by first | (rw [nI_succ]; exact hD.sub [0, 1, 2, 3] (by decide) rfl) | exact hD.sub [0, 1, 2, 3] (by decide) rfl
      have hl8 : lv_has ls 3 [(2, .int (nI (i + 1))), (0, .ref h0), (1, .int (nI N))] := by first | (rw [nI_succ]; exact lv_sub hl [0, 1, 2] rfl) | exact lv_sub hl [0, 1, 2] rfl
      have hk8 : i + 1 + k = N := by omega
      apply ih (i := i + 1) <;> assumption
  · obtain rfl : r_1 = 0 := hw.trans (if_neg h_2)
    refine lv_if_ne (tgt := 13) hx hb dX8_tick_8 (by decide) (fun c9 => absurd (by decide) c9) (fun _ => ?_)
    refine lv_iconst (v := (-1)) hx hb dX8_tick_11 (by decide) ?_
    exact W.iret (v := (-1)) hx hb hr (fun t ht hW => ⟨⟨(-1), (), rfl, (if_neg (by have k0 := h_2; simp only [p1_le, p1_lt, p1_eq, p1_m6, p1_m1, p1_0, p1_1, p1_2, p1_3, p1_4, p1_5, p1_6, p1_7, p1_8, p1_9, p1_10, p1_11, p1_12, p1_13, p1_14, p1_15, p1_16, p1_17, p1_18, p1_19, p1_20, p1_40, p1_50, p1_200, p1_1000] at k0 ⊢; omega)).symm, trivial⟩, hS.F ht⟩) hS.2.2 dX8_tick_12
def wq_holds0 : List Cond := [.code yX8_holds cX8_holds 3 (some .boolean)]
set_option maxRecDepth 20000 in
theorem wi_holds0 : ∀ w ∈ wq_holds0, w ∈ lw_tbl := (by decide +kernel)
set_option maxRecDepth 20000 in
theorem wg_holds0 : GoodIn wq_holds0 wq_holds0 := goodIn_sub (fun _ h => h) (by decide +kernel)
set_option maxHeartbeats 4000000 in
set_option maxRecDepth 100000 in
theorem c_holds0 (l : Launch) (dC : Nat → ClassId) (dI : Nat → Nat → Nat) (p0 : Int32) (sz : Nat) : Met l yX8_holds wq_holds0 ({ frames := 0, cells := 0, slots := 0, locals := 0 }) (va_Pc [.long 0, .int p0] (fun U => U.heap.size = sz ∧ va_P (dC, dI) vwCl [] U.heap ∧ va_K (dC, dI) vwCl [] U ∧ va_D (fun _ => True) [] ∧ pw_N U)) (va_Qi (fun (r : Int32) (_ : Unit) => r = 0) (fun (_ : Unit) (t : State) => va_P (dC, dI) vwCl [] t.heap ∧ va_D (va_A [] sz) []) (va_A [] sz)) 0 0 (va_A [] sz) := by
  refine Met.ofW (cc := cX8_holds) (maxL := 3) (ret := (some .boolean)) (by decide) rfl ?_
  intro p e s m args below meth c s₁ B hml hv
  obtain ⟨rfl, hsz, hP, hK, hD0, hN⟩ := hv
  have hx := B.exec
  have hb := B.bytes
  have hr := B.returns
  have hts := atoms_spec (ws := wq_holds0) B.pre
  have hown : s.vm.findClass RX8 = some m.cls := findClass_of_methodNamed B.named
  have hlocks := B.notSynchronized
  subst hsz
  have hD := hD0.self (sz := s.heap.size)
  generalize hAe : va_A [] s.heap.size = A at hD ⊢
  have hA : ∀ q : Nat, s.heap.size ≤ q → A q := fun q h => by rw [← hAe]; exact Or.inr h
  have hS : va_S A s.heap s.heap [] := va_S.rf
  have hP : va_P (dC, dI) vwCl [] s.heap := hP
  have hl := lv_entry ([.long 0, .int p0]) (n := 3) (Nat.le_of_ble_eq_true rfl)
  rw [lg_entry_eq]
  generalize (lg_sl ([.long 0, .int p0]) ++ List.replicate (3 - (lg_sl ([.long 0, .int p0])).length) Slot.unset).toArray = ls at hl ⊢
  have hl : lv_has ls 3 [(0, .long 0), (2, .int p0)] := hl
  refine lv_lload_n hx hb dX8_holds_0 rfl (lv_at hl 0 rfl) ?_
  refine lv_iload_n hx hb dX8_holds_1 rfl (lv_at hl 1 rfl) ?_
  refine lv_lushr hx hb dX8_holds_2 rfl ?_
  refine lv_topl (fun x_1 ex_1 => ?_)
  obtain rfl : x_1 = 0 := ex_1.trans (p1_sh0 _)
  refine lv_lconst (v := 1) hx hb dX8_holds_3 (by decide) ?_
  refine lv_land hx hb dX8_holds_4 ?_
  refine lv_topl (fun x_2 ex_2 => ?_)
  obtain rfl : x_2 = 0 := ex_2.trans (by decide)
  refine lv_lconst (v := 0) hx hb dX8_holds_5 (by decide) ?_
  refine W.lcmp hx hb dX8_holds_6 ?_
  refine lv_topi (fun x_3 ex_3 => ?_)
  obtain rfl : x_3 = 0 := ex_3.trans (by decide)
  refine lv_if_eq (tgt := 14) hx hb dX8_holds_7 (by decide) (fun _ => ?_) (fun c9 => absurd (by decide) c9)
  refine lv_iconst (v := 0) hx hb dX8_holds_14 (by decide) ?_
  have hP9 := hP.sub (ws' := []) [] rfl
  have hD9 := hD.sub (ws' := []) [] (by decide) rfl
  exact W.zret (v := 0) hx hb hr (by decide) (fun t ht hW => ⟨⟨0, (), rfl, rfl, by rw [ht]; exact hP9, hD9⟩, hS.F ht⟩) hS.2.2 dX8_holds_15
def wq_union0 : List Cond := [.code yX5_union cX5_union 6 (some .long), .initialized RX8, .static yX8_holds] ++ (wq_holds0)
set_option maxRecDepth 20000 in
theorem wi_union0 : ∀ w ∈ wq_union0, w ∈ lw_tbl := List.forall_mem_append.mpr ⟨(by decide +kernel), wi_holds0⟩
set_option maxRecDepth 20000 in
theorem wg_union0 : GoodIn wq_union0 wq_union0 := goodIn_sub (fun _ h => h) (by decide +kernel)
theorem wc_union0_holds0_19 : GoodIn wq_union0 wq_holds0 := (fun w h => ⟨List.mem_append_right _ (h), (wg_holds0 w h).2⟩)
set_option maxHeartbeats 4000000 in
set_option maxRecDepth 100000 in
theorem c_union0 (l : Launch) (dC : Nat → ClassId) (dI : Nat → Nat → Nat) (h0 : Nat) (cR : ClassId) (sz : Nat) : Met l yX5_union wq_union0 ({ frames := 1, cells := 0, slots := 0, locals := 22 }) (va_Pc [.ref h0, .long 0] (fun U => U.heap.size = sz ∧ va_P (dC, dI) vwCl [(h0, .inl (cR, 40, .inr (.inl (fun _ => 0))))] U.heap ∧ va_K (dC, dI) vwCl [(cR, .long)] U ∧ va_D (fun _ => True) [(h0, .inl (cR, 40, .inr (.inl (fun _ => 0))))] ∧ pw_N U)) (va_Ql (fun (r : Int64) (_ : Unit) => r = 0) (fun (_ : Unit) (t : State) => va_P (dC, dI) vwCl [(h0, .inl (cR, 40, .inr (.inl (fun _ => 0))))] t.heap ∧ va_D (va_A [(h0, .inl (cR, 40, .inr (.inl (fun _ => 0))))] sz) [(h0, .inl (cR, 40, .inr (.inl (fun _ => 0))))]) (va_A [(h0, .inl (cR, 40, .inr (.inl (fun _ => 0))))] sz)) 0 0 (va_A [(h0, .inl (cR, 40, .inr (.inl (fun _ => 0))))] sz) := by
  refine Met.ofW (cc := cX5_union) (maxL := 6) (ret := (some .long)) (by decide) rfl ?_
  intro p e s m args below meth c s₁ B hml hv
  obtain ⟨rfl, hsz, hP, hK, hD0, hN⟩ := hv
  have hx := B.exec
  have hb := B.bytes
  have hr := B.returns
  have hts := atoms_spec (ws := wq_union0) B.pre
  have hown : s.vm.findClass RX5 = some m.cls := findClass_of_methodNamed B.named
  have hlocks := B.notSynchronized
  subst hsz
  have hD := hD0.self (sz := s.heap.size)
  generalize hAe : va_A [(h0, .inl (cR, 40, .inr (.inl (fun _ => 0))))] s.heap.size = A at hD ⊢
  have hA : ∀ q : Nat, s.heap.size ≤ q → A q := fun q h => by rw [← hAe]; exact Or.inr h
  have hS : va_S A s.heap s.heap [] := va_S.rf
  have hP : va_P (dC, dI) vwCl [(h0, .inl (cR, 40, .inr (.inl (fun _ => 0))))] s.heap := hP
  have hl := lv_entry ([.ref h0, .long 0]) (n := 6) (Nat.le_of_ble_eq_true rfl)
  rw [lg_entry_eq]
  generalize (lg_sl ([.ref h0, .long 0]) ++ List.replicate (6 - (lg_sl ([.ref h0, .long 0])).length) Slot.unset).toArray = ls at hl ⊢
  have hl : lv_has ls 6 [(0, .ref h0), (1, .long 0)] := hl
  refine lv_lconst (v := 0) hx hb dX5_union_0 (by decide) ?_
  refine lv_lstore_n (lv' := [(3, .long 0), (0, .ref h0), (1, .long 0)]) hx hb dX5_union_1 rfl hl (by decide) rfl (fun ls hl => ?_)
  refine lv_iconst (v := 0) hx hb dX5_union_2 (by decide) ?_
  refine lv_istore (lv' := [(5, .int 0), (3, .long 0), (0, .ref h0), (1, .long 0)]) hx hb dX5_union_3 hl (by decide) rfl (fun ls hl => ?_)
  refine p1_gen (fun H locs hH hlo => ?_)
  replace hP : va_P (dC, dI) vwCl [(h0, .inl (cR, 40, .inr (.inl (fun _ => 0))))] H := by rw [hH]; exact hP
  replace hS : va_S A s.heap H locs := by rw [hH, hlo]; exact va_S.rf
  clear hH hlo
  obtain ⟨i, hi⟩ : ∃ i : Nat, i = 0 := ⟨0, rfl⟩
  obtain ⟨k, hk⟩ : ∃ k : Nat, i + k = 40 := ⟨40, by omega⟩
  replace hP : va_P (dC, dI) vwCl [(h0, .inl (cR, 40, .inr (.inl (fun _ => 0))))] H := by first | (rw [hi]; exact hP) | exact hP
  replace hD : va_D A [(h0, .inl (cR, 40, .inr (.inl (fun _ => 0))))] := by first | (rw [hi]; exact hD) | exact hD
  replace hl : lv_has ls 6 [(5, .int (nI i)), (3, .long 0), (0, .ref h0), (1, .long 0)] := by rw [hi]; exact hl
  clear hi
  induction k generalizing i H locs ls with
  | zero =>
    refine lv_iload hx hb dX5_union_5 (lv_at hl 0 rfl) ?_
    refine lv_aload_n hx hb dX5_union_7 rfl (lv_at hl 2 rfl) ?_
    refine va_alen (v := 40) hx hb hK hP 0 0 rfl rfl rfl dX5_union_8 ?_
    refine lv_icmp_ge (tgt := 34) hx hb dX5_union_9 (by decide) (fun _ => ?_) (fun c9 => absurd (show (40 : Int32) ≤ nI i by rw [show i = 40 by omega]; decide) c9)
    refine lv_lload_n hx hb dX5_union_34 rfl (lv_at hl 1 rfl) ?_
    have hP9 := hP.sub (ws' := [(h0, .inl (cR, 40, .inr (.inl (fun _ => 0))))]) [0] rfl
    have hD9 := hD.sub (ws' := [(h0, .inl (cR, 40, .inr (.inl (fun _ => 0))))]) [0] (by decide) rfl
    exact W.lret (v := 0) hx hb hr (fun t ht hW => ⟨⟨0, (), rfl, rfl, by rw [ht]; exact hP9, hD9⟩, hS.F ht⟩) hS.2.2 dX5_union_35
  | succ k ih =>
    refine lv_iload hx hb dX5_union_5 (lv_at hl 0 rfl) ?_
    refine lv_aload_n hx hb dX5_union_7 rfl (lv_at hl 2 rfl) ?_
    refine va_alen (v := 40) hx hb hK hP 0 0 rfl rfl rfl dX5_union_8 ?_
    refine lv_icmp_ge (tgt := 34) hx hb dX5_union_9 (by decide) (fun c9 => absurd c9 (show ¬ (40 : Int32) ≤ nI i from nI_ge (a := i) (b := 40) (by omega) (by decide))) (fun _ => ?_)
    refine lv_lload_n hx hb dX5_union_12 rfl (lv_at hl 3 rfl) ?_
    refine lv_iload hx hb dX5_union_13 (lv_at hl 0 rfl) ?_
    have hPc := hP.sub (ws' := []) [] rfl
    have hDc := hD.sub (ws' := []) [] (by decide) rfl
    have hKc := hK.sub (tys' := []) [] rfl
    have hFc := va_free (wc := []) hD hS hA [] rfl
    refine va_calli (va_runSN (As := [.long 0, .int (nI i)]) (rest := []) ⟨hx, hb, hml, hown, hts⟩ (c_holds0 l dC dI (nI i) H.size) ⟨va_cnB 2 hts wc_union0_holds0_19 rfl rfl rfl (hN (.methodLinkNest RX5 19 yX8_holds "ServiceTree") (by decide +kernel)) (hts (.initialized RX8) (by decide +kernel)) (by decide +kernel) ⟨Nat.le_of_ble_eq_true rfl, Nat.le_of_ble_eq_true rfl⟩, hts (.static yX8_holds) (by decide +kernel), trivial⟩ ⟨fun a U g mk q => by obtain ⟨q0, q1, qP, qK, qD, qN⟩ := q; exact ⟨q0, q1, qP, va_K.moved (u := U) (U := U.calling g mk a) (Vm.Alike.refl U.vm) qK, qD, pw_N.same (u := U) (U := U.calling g mk a) rfl qN⟩, fun U hU hW => ⟨rfl, by rw [hU], by rw [hU]; exact hPc, va_K.moved hW.alike hKc, hDc.weaken (fun _ _ _ _ => trivial), pw_N.warm hW hN⟩⟩ rfl rfl hl.1 rfl (lv_room (Nat.le_of_ble_eq_true rfl)) dX5_union_15 ⟨Nat.le_of_ble_eq_true rfl, Nat.le_of_ble_eq_true rfl⟩) hS (fun q _ h => hFc q h) hFc (fun r_1 u t H1 locs ht hvm hw hB hz1 hk1 hS => ?_)
    obtain ⟨hP1, hD1⟩ := hB
    rw [ht] at hP1
    obtain ⟨hP, hD⟩ := va_join (wr := [(h0, .inl (cR, 40, .inr (.inl (fun _ => 0))))]) (w1 := []) hP hD [] [0] rfl rfl (by decide) (by decide) hk1 hFc hP1 hD1
    generalize H1 = H at hP hS ⊢
    replace hP : va_P (dC, dI) vwCl [(h0, .inl (cR, 40, .inr (.inl (fun _ => 0))))] H := hP
    replace hD : va_D A [(h0, .inl (cR, 40, .inr (.inl (fun _ => 0))))] := hD
    try dsimp only at hw
    subst hw
    refine lv_if_eq (tgt := 28) hx hb dX5_union_18 (by decide) (fun _ => ?_) (fun c9 => absurd (by decide) c9)
    refine lv_iinc (v := ((nI i) + 1)) (lv' := [(5, .int ((nI i) + 1)), (3, .long 0), (0, .ref h0), (1, .long 0)]) hx hb dX5_union_28 hl (k := 0) rfl rfl (by decide) rfl (fun ls hl => ?_)
    refine lv_goto (tgt := 5) hx hb dX5_union_31 (by decide) ?_
    have hP8 : va_P (dC, dI) vwCl [(h0, .inl (cR, 40, .inr (.inl (fun _ => 0))))] H := by first | (rw [nI_succ]; exact hP.sub [0] rfl) | exact hP.sub [0] rfl
    have hD8 : va_D A [(h0, .inl (cR, 40, .inr (.inl (fun _ => 0))))] := by first | (rw [nI_succ]; exact hD.sub [0] (by decide) rfl) | exact hD.sub [0] (by decide) rfl
    have hl8 : lv_has ls 6 [(5, .int (nI (i + 1))), (3, .long 0), (0, .ref h0), (1, .long 0)] := by first | (rw [nI_succ]; exact lv_sub hl [0, 1, 2, 3] rfl) | exact lv_sub hl [0, 1, 2, 3] rfl
    have hk8 : i + 1 + k = 40 := by omega
    apply ih (i := i + 1) <;> assumption
def wq_clash0 : List Cond := [.code yX5_clash cX5_clash 3 (some .boolean), .fieldLink RX5 11 "ServiceTree$Relations" "froms" "[[J", .methodLink RX5 40 yX5_union, .static yX5_union, .initialized RX5] ++ (wsX50 ++ (wq_union0))
theorem in_clash0_X5 : ∀ w ∈ wsX50, w ∈ wq_clash0 := fun _ h => List.mem_append_right _ (List.mem_append_left _ (h))
set_option maxRecDepth 20000 in
theorem wi_clash0 : ∀ w ∈ wq_clash0, w ∈ lw_tbl := List.forall_mem_append.mpr ⟨(by decide +kernel), List.forall_mem_append.mpr ⟨inKX5, wi_union0⟩⟩
set_option maxRecDepth 20000 in
theorem wg_clash0 : GoodIn wq_clash0 wq_clash0 := goodIn_sub (fun _ h => h) (by decide +kernel)
set_option maxRecDepth 20000 in
theorem wc_clash0_union0_40 : GoodIn wq_clash0 (va_wsS RX5 40 yX5_union wq_union0) := goodIn_app (goodIn_of _ (by decide +kernel)) (fun w h => ⟨List.mem_append_right _ (List.mem_append_right _ (h)), (wg_union0 w h).2⟩)
set_option maxHeartbeats 4000000 in
set_option maxRecDepth 100000 in
theorem c_clash0 (l : Launch) (dC : Nat → ClassId) (dI : Nat → Nat → Nat) (h0 : Nat) (g0 : Nat) (g1 : Nat) (rr : Nat → Nat) (cO : ClassId) (cR : ClassId) (sz : Nat) : Met l yX5_clash wq_clash0 ({ frames := 2, cells := 0, slots := 0, locals := 47 }) (va_Pc [.ref h0, .long 0] (fun U => U.heap.size = sz ∧ va_P (dC, dI) vwCl [(h0, .inr (6, [.ref g0, .ref g1, .int 0])), (g0, .inl (cO, 4, .inr (.inr (.inr (.inr (fun i => if i < 4 then some (rr i) else none)))))), (rr 3, .inl (cR, 40, .inr (.inl (fun _ => 0))))] U.heap ∧ va_K (dC, dI) vwCl [(cO, .array .long), (cR, .long)] U ∧ va_D (fun _ => True) [(h0, .inr (6, [.ref g0, .ref g1, .int 0])), (g0, .inl (cO, 4, .inr (.inr (.inr (.inr (fun i => if i < 4 then some (rr i) else none)))))), (rr 3, .inl (cR, 40, .inr (.inl (fun _ => 0))))] ∧ pw_N U)) (va_Qi (fun (r : Int32) (_ : Unit) => r = 0) (fun (_ : Unit) (t : State) => va_P (dC, dI) vwCl [(h0, .inr (6, [.ref g0, .ref g1, .int 0])), (g0, .inl (cO, 4, .inr (.inr (.inr (.inr (fun i => if i < 4 then some (rr i) else none)))))), (rr 3, .inl (cR, 40, .inr (.inl (fun _ => 0))))] t.heap ∧ va_D (va_A [(h0, .inr (6, [.ref g0, .ref g1, .int 0])), (g0, .inl (cO, 4, .inr (.inr (.inr (.inr (fun i => if i < 4 then some (rr i) else none)))))), (rr 3, .inl (cR, 40, .inr (.inl (fun _ => 0))))] sz) [(h0, .inr (6, [.ref g0, .ref g1, .int 0])), (g0, .inl (cO, 4, .inr (.inr (.inr (.inr (fun i => if i < 4 then some (rr i) else none)))))), (rr 3, .inl (cR, 40, .inr (.inl (fun _ => 0))))]) (va_A [(h0, .inr (6, [.ref g0, .ref g1, .int 0])), (g0, .inl (cO, 4, .inr (.inr (.inr (.inr (fun i => if i < 4 then some (rr i) else none)))))), (rr 3, .inl (cR, 40, .inr (.inl (fun _ => 0))))] sz)) 0 0 (va_A [(h0, .inr (6, [.ref g0, .ref g1, .int 0])), (g0, .inl (cO, 4, .inr (.inr (.inr (.inr (fun i => if i < 4 then some (rr i) else none)))))), (rr 3, .inl (cR, 40, .inr (.inl (fun _ => 0))))] sz) := by
  refine Met.ofW (cc := cX5_clash) (maxL := 3) (ret := (some .boolean)) (by decide) rfl ?_
  intro p e s m args below meth c s₁ B hml hv
  obtain ⟨rfl, hsz, hP, hK, hD0, hN⟩ := hv
  have hx := B.exec
  have hb := B.bytes
  have hr := B.returns
  have hts := atoms_spec (ws := wq_clash0) B.pre
  have hown : s.vm.findClass RX5 = some m.cls := findClass_of_methodNamed B.named
  have hlocks := B.notSynchronized
  subst hsz
  have hD := hD0.self (sz := s.heap.size)
  generalize hAe : va_A [(h0, .inr (6, [.ref g0, .ref g1, .int 0])), (g0, .inl (cO, 4, .inr (.inr (.inr (.inr (fun i => if i < 4 then some (rr i) else none)))))), (rr 3, .inl (cR, 40, .inr (.inl (fun _ => 0))))] s.heap.size = A at hD ⊢
  have hA : ∀ q : Nat, s.heap.size ≤ q → A q := fun q h => by rw [← hAe]; exact Or.inr h
  have hS : va_S A s.heap s.heap [] := va_S.rf
  have hP : va_P (dC, dI) vwCl [(h0, .inr (6, [.ref g0, .ref g1, .int 0])), (g0, .inl (cO, 4, .inr (.inr (.inr (.inr (fun i => if i < 4 then some (rr i) else none)))))), (rr 3, .inl (cR, 40, .inr (.inl (fun _ => 0))))] s.heap := hP
  have hl := lv_entry ([.ref h0, .long 0]) (n := 3) (Nat.le_of_ble_eq_true rfl)
  rw [lg_entry_eq]
  generalize (lg_sl ([.ref h0, .long 0]) ++ List.replicate (3 - (lg_sl ([.ref h0, .long 0])).length) Slot.unset).toArray = ls at hl ⊢
  have hl : lv_has ls 3 [(0, .ref h0), (1, .long 0)] := hl
  refine lv_aload_n hx hb dX5_clash_0 rfl (lv_at hl 0 rfl) ?_
  refine va_get (D := (dC, dI)) (ci := 6) (v := .ref g0) (C := RX5) (T := TX5) (N := 3) hx hb hts in_clash0_X5 hown hK hP 0 rfl rfl 0 (by decide) (hts (.fieldLink RX5 11 "ServiceTree$Relations" "froms" "[[J") (by decide +kernel)) (fun _ h9 => h9) rfl dX5_clash_1 ?_
  refine lv_iconst (v := 3) hx hb dX5_clash_4 (by decide) ?_
  refine p1_aldA hx hb hK hP 1 0 rfl rfl (show ¬ ((3 : Int32) < 0 ∨ 4 ≤ (3 : Int32).toNatClampNeg) by decide) dX5_clash_5 ?_
  refine p1_topr (v := .ref (rr 3)) rfl ?_
  refine lv_lload_n hx hb dX5_clash_6 rfl (lv_at hl 1 rfl) ?_
  have hPc := hP.sub (ws' := [(rr 3, .inl (cR, 40, .inr (.inl (fun _ => 0))))]) [2] rfl
  have hDc := hD.sub (ws' := [(rr 3, .inl (cR, 40, .inr (.inl (fun _ => 0))))]) [2] (by decide) rfl
  have hKc := hK.sub (tys' := [(cR, .long)]) [1] rfl
  have hFc := va_free (wc := [(rr 3, .inl (cR, 40, .inr (.inl (fun _ => 0))))]) hD hS hA [2] rfl
  refine va_calll (va_runS (As := [.ref (rr 3), .long 0]) (rest := []) ⟨hx, hb, hml, hown, hts⟩ (c_union0 l dC dI (rr 3) cR s.heap.size) (va_cwS 2 hts wc_clash0_union0_40 rfl rfl rfl (by decide +kernel) ⟨Nat.le_of_ble_eq_true rfl, Nat.le_of_ble_eq_true rfl⟩) ⟨fun a U g mk q => by obtain ⟨q0, q1, qP, qK, qD, qN⟩ := q; exact ⟨q0, q1, qP, va_K.moved (u := U) (U := U.calling g mk a) (Vm.Alike.refl U.vm) qK, qD, pw_N.same (u := U) (U := U.calling g mk a) rfl qN⟩, fun U hU hW => ⟨rfl, by rw [hU], by rw [hU]; exact hPc, va_K.moved hW.alike hKc, hDc.weaken (fun _ _ _ _ => trivial), pw_N.warm hW hN⟩⟩ rfl rfl hl.1 rfl (lv_room (Nat.le_of_ble_eq_true rfl)) dX5_clash_7 ⟨Nat.le_of_ble_eq_true rfl, Nat.le_of_ble_eq_true rfl⟩) hS (fun q _ h => hFc q h) hFc (fun r_1 u t H1 locs ht hvm hw hB hz1 hk1 hS => ?_)
  obtain ⟨hP1, hD1⟩ := hB
  rw [ht] at hP1
  obtain ⟨hP, hD⟩ := va_join (wr := [(h0, .inr (6, [.ref g0, .ref g1, .int 0])), (g0, .inl (cO, 4, .inr (.inr (.inr (.inr (fun i => if i < 4 then some (rr i) else none))))))]) (w1 := [(rr 3, .inl (cR, 40, .inr (.inl (fun _ => 0))))]) hP hD [2] [0, 1] rfl rfl (by decide) (by decide) hk1 hFc hP1 hD1
  generalize H1 = H at hP hS ⊢
  replace hP : va_P (dC, dI) vwCl [(h0, .inr (6, [.ref g0, .ref g1, .int 0])), (g0, .inl (cO, 4, .inr (.inr (.inr (.inr (fun i => if i < 4 then some (rr i) else none)))))), (rr 3, .inl (cR, 40, .inr (.inl (fun _ => 0))))] H := hP
  replace hD : va_D A [(h0, .inr (6, [.ref g0, .ref g1, .int 0])), (g0, .inl (cO, 4, .inr (.inr (.inr (.inr (fun i => if i < 4 then some (rr i) else none)))))), (rr 3, .inl (cR, 40, .inr (.inl (fun _ => 0))))] := hD
  try dsimp only at hw
  subst hw
  refine lv_lload_n hx hb dX5_clash_10 rfl (lv_at hl 1 rfl) ?_
  refine lv_land hx hb dX5_clash_11 ?_
  refine lv_topl (fun x_2 ex_2 => ?_)
  obtain rfl : x_2 = 0 := ex_2.trans (by decide)
  refine lv_lconst (v := 0) hx hb dX5_clash_12 (by decide) ?_
  refine W.lcmp hx hb dX5_clash_13 ?_
  refine lv_topi (fun x_3 ex_3 => ?_)
  obtain rfl : x_3 = 0 := ex_3.trans (by decide)
  refine lv_if_eq (tgt := 21) hx hb dX5_clash_14 (by decide) (fun _ => ?_) (fun c9 => absurd (by decide) c9)
  refine lv_iconst (v := 0) hx hb dX5_clash_21 (by decide) ?_
  have hP9 := hP.sub (ws' := [(h0, .inr (6, [.ref g0, .ref g1, .int 0])), (g0, .inl (cO, 4, .inr (.inr (.inr (.inr (fun i => if i < 4 then some (rr i) else none)))))), (rr 3, .inl (cR, 40, .inr (.inl (fun _ => 0))))]) [0, 1, 2] rfl
  have hD9 := hD.sub (ws' := [(h0, .inr (6, [.ref g0, .ref g1, .int 0])), (g0, .inl (cO, 4, .inr (.inr (.inr (.inr (fun i => if i < 4 then some (rr i) else none)))))), (rr 3, .inl (cR, 40, .inr (.inl (fun _ => 0))))]) [0, 1, 2] (by decide) rfl
  exact W.zret (v := 0) hx hb hr (by decide) (fun t ht hW => ⟨⟨0, (), rfl, rfl, by rw [ht]; exact hP9, hD9⟩, hS.F ht⟩) hS.2.2 dX5_clash_22
def wq_sus : List Cond := [.code yX8_startingUpOrStopping cX8_startingUpOrStopping 1 (some .long), .fieldLink RX8 53 "ServiceTree" "inState" "[J"] ++ (wsX80)
theorem in_sus_X8 : ∀ w ∈ wsX80, w ∈ wq_sus := fun _ h => List.mem_append_right _ (h)
set_option maxRecDepth 20000 in
theorem wi_sus : ∀ w ∈ wq_sus, w ∈ lw_tbl := List.forall_mem_append.mpr ⟨(by decide +kernel), inKX8⟩
set_option maxRecDepth 20000 in
theorem wg_sus : GoodIn wq_sus wq_sus := goodIn_sub (fun _ h => h) (by decide +kernel)
set_option maxHeartbeats 4000000 in
set_option maxRecDepth 100000 in
theorem c_sus (l : Launch) (dC : Nat → ClassId) (dI : Nat → Nat → Nat) (h0 : Nat) (a : Nat → Nat) (nw : Int32) (cI : ClassId) (sz : Nat) : Met l yX8_startingUpOrStopping wq_sus ({ frames := 0, cells := 0, slots := 0, locals := 0 }) (va_Pc [.ref h0] (fun U => U.heap.size = sz ∧ va_P (dC, dI) vwCl [(h0, .inr (9, [.ref (a 0), .ref (a 1), .ref (a 2), .ref (a 3), .ref (a 4), .ref (a 5), .ref (a 6), .long 0, .long 0, .int nw, .int 0, .int 0, .int 0, .int 0])), (a 6, .inl (cI, 6, .inr (.inl (fun _ => 0))))] U.heap ∧ va_K (dC, dI) vwCl [(cI, .long)] U ∧ va_D (fun _ => True) [(h0, .inr (9, [.ref (a 0), .ref (a 1), .ref (a 2), .ref (a 3), .ref (a 4), .ref (a 5), .ref (a 6), .long 0, .long 0, .int nw, .int 0, .int 0, .int 0, .int 0])), (a 6, .inl (cI, 6, .inr (.inl (fun _ => 0))))] ∧ pw_N U)) (va_Ql (fun (r : Int64) (_ : Unit) => r = 0) (fun (_ : Unit) (t : State) => va_P (dC, dI) vwCl [(h0, .inr (9, [.ref (a 0), .ref (a 1), .ref (a 2), .ref (a 3), .ref (a 4), .ref (a 5), .ref (a 6), .long 0, .long 0, .int nw, .int 0, .int 0, .int 0, .int 0])), (a 6, .inl (cI, 6, .inr (.inl (fun _ => 0))))] t.heap ∧ va_D (va_A [(h0, .inr (9, [.ref (a 0), .ref (a 1), .ref (a 2), .ref (a 3), .ref (a 4), .ref (a 5), .ref (a 6), .long 0, .long 0, .int nw, .int 0, .int 0, .int 0, .int 0])), (a 6, .inl (cI, 6, .inr (.inl (fun _ => 0))))] sz) [(h0, .inr (9, [.ref (a 0), .ref (a 1), .ref (a 2), .ref (a 3), .ref (a 4), .ref (a 5), .ref (a 6), .long 0, .long 0, .int nw, .int 0, .int 0, .int 0, .int 0])), (a 6, .inl (cI, 6, .inr (.inl (fun _ => 0))))]) (va_A [(h0, .inr (9, [.ref (a 0), .ref (a 1), .ref (a 2), .ref (a 3), .ref (a 4), .ref (a 5), .ref (a 6), .long 0, .long 0, .int nw, .int 0, .int 0, .int 0, .int 0])), (a 6, .inl (cI, 6, .inr (.inl (fun _ => 0))))] sz)) 0 0 (va_A [(h0, .inr (9, [.ref (a 0), .ref (a 1), .ref (a 2), .ref (a 3), .ref (a 4), .ref (a 5), .ref (a 6), .long 0, .long 0, .int nw, .int 0, .int 0, .int 0, .int 0])), (a 6, .inl (cI, 6, .inr (.inl (fun _ => 0))))] sz) := by
  refine Met.ofW (cc := cX8_startingUpOrStopping) (maxL := 1) (ret := (some .long)) (by decide) rfl ?_
  intro p e s m args below meth c s₁ B hml hv
  obtain ⟨rfl, hsz, hP, hK, hD0, hN⟩ := hv
  have hx := B.exec
  have hb := B.bytes
  have hr := B.returns
  have hts := atoms_spec (ws := wq_sus) B.pre
  have hown : s.vm.findClass RX8 = some m.cls := findClass_of_methodNamed B.named
  have hlocks := B.notSynchronized
  subst hsz
  have hD := hD0.self (sz := s.heap.size)
  generalize hAe : va_A [(h0, .inr (9, [.ref (a 0), .ref (a 1), .ref (a 2), .ref (a 3), .ref (a 4), .ref (a 5), .ref (a 6), .long 0, .long 0, .int nw, .int 0, .int 0, .int 0, .int 0])), (a 6, .inl (cI, 6, .inr (.inl (fun _ => 0))))] s.heap.size = A at hD ⊢
  have hA : ∀ q : Nat, s.heap.size ≤ q → A q := fun q h => by rw [← hAe]; exact Or.inr h
  have hS : va_S A s.heap s.heap [] := va_S.rf
  have hP : va_P (dC, dI) vwCl [(h0, .inr (9, [.ref (a 0), .ref (a 1), .ref (a 2), .ref (a 3), .ref (a 4), .ref (a 5), .ref (a 6), .long 0, .long 0, .int nw, .int 0, .int 0, .int 0, .int 0])), (a 6, .inl (cI, 6, .inr (.inl (fun _ => 0))))] s.heap := hP
  have hl := lv_entry ([.ref h0]) (n := 1) (Nat.le_of_ble_eq_true rfl)
  rw [lg_entry_eq]
  generalize (lg_sl ([.ref h0]) ++ List.replicate (1 - (lg_sl ([.ref h0])).length) Slot.unset).toArray = ls at hl ⊢
  have hl : lv_has ls 1 [(0, .ref h0)] := hl
  refine lv_aload_n hx hb dX8_startingUpOrStopping_0 rfl (lv_at hl 0 rfl) ?_
  refine va_get (D := (dC, dI)) (ci := 9) (v := .ref (a 6)) (C := RX8) (T := TX8) (N := 14) hx hb hts in_sus_X8 hown hK hP 0 rfl rfl 6 (by decide) (hts (.fieldLink RX8 53 "ServiceTree" "inState" "[J") (by decide +kernel)) (fun _ h9 => h9) rfl dX8_startingUpOrStopping_1 ?_
  refine lv_iconst (v := 1) hx hb dX8_startingUpOrStopping_4 (by decide) ?_
  refine va_lald hx hb hK hP 1 0 rfl rfl (show ¬ ((1 : Int32) < 0 ∨ 6 ≤ (1 : Int32).toNatClampNeg) by decide) dX8_startingUpOrStopping_5 ?_
  refine lv_topl (fun x_1 ex_1 => ?_)
  obtain rfl : x_1 = 0 := ex_1
  refine lv_aload_n hx hb dX8_startingUpOrStopping_6 rfl (lv_at hl 0 rfl) ?_
  refine va_get (D := (dC, dI)) (ci := 9) (v := .ref (a 6)) (C := RX8) (T := TX8) (N := 14) hx hb hts in_sus_X8 hown hK hP 0 rfl rfl 6 (by decide) (hts (.fieldLink RX8 53 "ServiceTree" "inState" "[J") (by decide +kernel)) (fun _ h9 => h9) rfl dX8_startingUpOrStopping_7 ?_
  refine lv_iconst (v := 2) hx hb dX8_startingUpOrStopping_10 (by decide) ?_
  refine va_lald hx hb hK hP 1 0 rfl rfl (show ¬ ((2 : Int32) < 0 ∨ 6 ≤ (2 : Int32).toNatClampNeg) by decide) dX8_startingUpOrStopping_11 ?_
  refine lv_topl (fun x_2 ex_2 => ?_)
  obtain rfl : x_2 = 0 := ex_2
  refine lv_lor hx hb dX8_startingUpOrStopping_12 ?_
  refine lv_topl (fun x_3 ex_3 => ?_)
  obtain rfl : x_3 = 0 := ex_3.trans (by decide)
  refine lv_aload_n hx hb dX8_startingUpOrStopping_13 rfl (lv_at hl 0 rfl) ?_
  refine va_get (D := (dC, dI)) (ci := 9) (v := .ref (a 6)) (C := RX8) (T := TX8) (N := 14) hx hb hts in_sus_X8 hown hK hP 0 rfl rfl 6 (by decide) (hts (.fieldLink RX8 53 "ServiceTree" "inState" "[J") (by decide +kernel)) (fun _ h9 => h9) rfl dX8_startingUpOrStopping_14 ?_
  refine lv_iconst (v := 3) hx hb dX8_startingUpOrStopping_17 (by decide) ?_
  refine va_lald hx hb hK hP 1 0 rfl rfl (show ¬ ((3 : Int32) < 0 ∨ 6 ≤ (3 : Int32).toNatClampNeg) by decide) dX8_startingUpOrStopping_18 ?_
  refine lv_topl (fun x_4 ex_4 => ?_)
  obtain rfl : x_4 = 0 := ex_4
  refine lv_lor hx hb dX8_startingUpOrStopping_19 ?_
  refine lv_topl (fun x_5 ex_5 => ?_)
  obtain rfl : x_5 = 0 := ex_5.trans (by decide)
  have hP9 := hP.sub (ws' := [(h0, .inr (9, [.ref (a 0), .ref (a 1), .ref (a 2), .ref (a 3), .ref (a 4), .ref (a 5), .ref (a 6), .long 0, .long 0, .int nw, .int 0, .int 0, .int 0, .int 0])), (a 6, .inl (cI, 6, .inr (.inl (fun _ => 0))))]) [0, 1] rfl
  have hD9 := hD.sub (ws' := [(h0, .inr (9, [.ref (a 0), .ref (a 1), .ref (a 2), .ref (a 3), .ref (a 4), .ref (a 5), .ref (a 6), .long 0, .long 0, .int nw, .int 0, .int 0, .int 0, .int 0])), (a 6, .inl (cI, 6, .inr (.inl (fun _ => 0))))]) [0, 1] (by decide) rfl
  exact W.lret (v := 0) hx hb hr (fun t ht hW => ⟨⟨0, (), rfl, rfl, by rw [ht]; exact hP9, hD9⟩, hS.F ht⟩) hS.2.2 dX8_startingUpOrStopping_20
def wq_leastLacking : List Cond := [.code yX8_leastLacking cX8_leastLacking 4 (some .int), .fieldLink RX8 53 "ServiceTree" "inState" "[J", .fieldLink RX8 10 "ServiceTree" "services" "Ljava/util/ArrayList;", .methodLink RX8 61 yJx4a65c_size_8abf5, .instanceMethod yJx4a65c_size_8abf5, .selects RJx4a65c yJx4a65c_size_8abf5 yJx4a65c_size_8abf5, .initialized RJx4a65c] ++ (wsX80 ++ (wq_size))
theorem in_leastLacking_X8 : ∀ w ∈ wsX80, w ∈ wq_leastLacking := fun _ h => List.mem_append_right _ (List.mem_append_left _ (h))
set_option maxRecDepth 20000 in
theorem wi_leastLacking : ∀ w ∈ wq_leastLacking, w ∈ lw_tbl := List.forall_mem_append.mpr ⟨(by decide +kernel), List.forall_mem_append.mpr ⟨inKX8, wi_size⟩⟩
set_option maxRecDepth 20000 in
theorem wg_leastLacking : GoodIn wq_leastLacking wq_leastLacking := goodIn_sub (fun _ h => h) (by decide +kernel)
set_option maxRecDepth 20000 in
theorem wc_leastLacking_size_61 : GoodIn wq_leastLacking (wsV RX8 61 RJx4a65c yJx4a65c_size_8abf5 wq_size) := goodIn_app (goodIn_of _ (by decide +kernel)) (fun w h => ⟨List.mem_append_right _ (List.mem_append_right _ (h)), (wg_size w h).2⟩)
set_option maxHeartbeats 4000000 in
set_option maxRecDepth 100000 in
theorem c_leastLacking (l : Launch) (dC : Nat → ClassId) (dI : Nat → Nat → Nat) (h0 : Nat) (a : Nat → Nat) (nw : Int32) (z : Nat) (cI : ClassId) (sz : Nat) : Met l yX8_leastLacking wq_leastLacking ({ frames := 1, cells := 0, slots := 0, locals := 20 }) (va_Pc [.ref h0] (fun U => U.heap.size = sz ∧ va_P (dC, dI) vwCl [(h0, .inr (9, [.ref (a 0), .ref (a 1), .ref (a 2), .ref (a 3), .ref (a 4), .ref (a 5), .ref (a 6), .long 0, .long 0, .int nw, .int 0, .int 0, .int 0, .int 0])), (a 0, .inr (0, [.int 0, .ref z, .int 0])), (a 6, .inl (cI, 6, .inr (.inl (fun _ => 0))))] U.heap ∧ va_K (dC, dI) vwCl [(cI, .long)] U ∧ va_D (fun _ => True) [(h0, .inr (9, [.ref (a 0), .ref (a 1), .ref (a 2), .ref (a 3), .ref (a 4), .ref (a 5), .ref (a 6), .long 0, .long 0, .int nw, .int 0, .int 0, .int 0, .int 0])), (a 0, .inr (0, [.int 0, .ref z, .int 0])), (a 6, .inl (cI, 6, .inr (.inl (fun _ => 0))))] ∧ pw_N U)) (va_Qi (fun (r : Int32) (_ : Unit) => r = (-1)) (fun (_ : Unit) (t : State) => va_P (dC, dI) vwCl [(h0, .inr (9, [.ref (a 0), .ref (a 1), .ref (a 2), .ref (a 3), .ref (a 4), .ref (a 5), .ref (a 6), .long 0, .long 0, .int nw, .int 0, .int 0, .int 0, .int 0])), (a 0, .inr (0, [.int 0, .ref z, .int 0])), (a 6, .inl (cI, 6, .inr (.inl (fun _ => 0))))] t.heap ∧ va_D (va_A [(h0, .inr (9, [.ref (a 0), .ref (a 1), .ref (a 2), .ref (a 3), .ref (a 4), .ref (a 5), .ref (a 6), .long 0, .long 0, .int nw, .int 0, .int 0, .int 0, .int 0])), (a 0, .inr (0, [.int 0, .ref z, .int 0])), (a 6, .inl (cI, 6, .inr (.inl (fun _ => 0))))] sz) [(h0, .inr (9, [.ref (a 0), .ref (a 1), .ref (a 2), .ref (a 3), .ref (a 4), .ref (a 5), .ref (a 6), .long 0, .long 0, .int nw, .int 0, .int 0, .int 0, .int 0])), (a 0, .inr (0, [.int 0, .ref z, .int 0])), (a 6, .inl (cI, 6, .inr (.inl (fun _ => 0))))]) (va_A [(h0, .inr (9, [.ref (a 0), .ref (a 1), .ref (a 2), .ref (a 3), .ref (a 4), .ref (a 5), .ref (a 6), .long 0, .long 0, .int nw, .int 0, .int 0, .int 0, .int 0])), (a 0, .inr (0, [.int 0, .ref z, .int 0])), (a 6, .inl (cI, 6, .inr (.inl (fun _ => 0))))] sz)) 0 0 (va_A [(h0, .inr (9, [.ref (a 0), .ref (a 1), .ref (a 2), .ref (a 3), .ref (a 4), .ref (a 5), .ref (a 6), .long 0, .long 0, .int nw, .int 0, .int 0, .int 0, .int 0])), (a 0, .inr (0, [.int 0, .ref z, .int 0])), (a 6, .inl (cI, 6, .inr (.inl (fun _ => 0))))] sz) := by
  refine Met.ofW (cc := cX8_leastLacking) (maxL := 4) (ret := (some .int)) (by decide) rfl ?_
  intro p e s m args below meth c s₁ B hml hv
  obtain ⟨rfl, hsz, hP, hK, hD0, hN⟩ := hv
  have hx := B.exec
  have hb := B.bytes
  have hr := B.returns
  have hts := atoms_spec (ws := wq_leastLacking) B.pre
  have hown : s.vm.findClass RX8 = some m.cls := findClass_of_methodNamed B.named
  have hlocks := B.notSynchronized
  subst hsz
  have hD := hD0.self (sz := s.heap.size)
  generalize hAe : va_A [(h0, .inr (9, [.ref (a 0), .ref (a 1), .ref (a 2), .ref (a 3), .ref (a 4), .ref (a 5), .ref (a 6), .long 0, .long 0, .int nw, .int 0, .int 0, .int 0, .int 0])), (a 0, .inr (0, [.int 0, .ref z, .int 0])), (a 6, .inl (cI, 6, .inr (.inl (fun _ => 0))))] s.heap.size = A at hD ⊢
  have hA : ∀ q : Nat, s.heap.size ≤ q → A q := fun q h => by rw [← hAe]; exact Or.inr h
  have hS : va_S A s.heap s.heap [] := va_S.rf
  have hP : va_P (dC, dI) vwCl [(h0, .inr (9, [.ref (a 0), .ref (a 1), .ref (a 2), .ref (a 3), .ref (a 4), .ref (a 5), .ref (a 6), .long 0, .long 0, .int nw, .int 0, .int 0, .int 0, .int 0])), (a 0, .inr (0, [.int 0, .ref z, .int 0])), (a 6, .inl (cI, 6, .inr (.inl (fun _ => 0))))] s.heap := hP
  have hl := lv_entry ([.ref h0]) (n := 4) (Nat.le_of_ble_eq_true rfl)
  rw [lg_entry_eq]
  generalize (lg_sl ([.ref h0]) ++ List.replicate (4 - (lg_sl ([.ref h0])).length) Slot.unset).toArray = ls at hl ⊢
  have hl : lv_has ls 4 [(0, .ref h0)] := hl
  refine lv_aload_n hx hb dX8_leastLacking_0 rfl (lv_at hl 0 rfl) ?_
  refine va_get (D := (dC, dI)) (ci := 9) (v := .ref (a 6)) (C := RX8) (T := TX8) (N := 14) hx hb hts in_leastLacking_X8 hown hK hP 0 rfl rfl 6 (by decide) (hts (.fieldLink RX8 53 "ServiceTree" "inState" "[J") (by decide +kernel)) (fun _ h9 => h9) rfl dX8_leastLacking_1 ?_
  refine lv_iconst (v := 1) hx hb dX8_leastLacking_4 (by decide) ?_
  refine va_lald hx hb hK hP 2 0 rfl rfl (show ¬ ((1 : Int32) < 0 ∨ 6 ≤ (1 : Int32).toNatClampNeg) by decide) dX8_leastLacking_5 ?_
  refine lv_topl (fun x_1 ex_1 => ?_)
  obtain rfl : x_1 = 0 := ex_1
  refine lv_aload_n hx hb dX8_leastLacking_6 rfl (lv_at hl 0 rfl) ?_
  refine va_get (D := (dC, dI)) (ci := 9) (v := .ref (a 6)) (C := RX8) (T := TX8) (N := 14) hx hb hts in_leastLacking_X8 hown hK hP 0 rfl rfl 6 (by decide) (hts (.fieldLink RX8 53 "ServiceTree" "inState" "[J") (by decide +kernel)) (fun _ h9 => h9) rfl dX8_leastLacking_7 ?_
  refine lv_iconst (v := 2) hx hb dX8_leastLacking_10 (by decide) ?_
  refine va_lald hx hb hK hP 2 0 rfl rfl (show ¬ ((2 : Int32) < 0 ∨ 6 ≤ (2 : Int32).toNatClampNeg) by decide) dX8_leastLacking_11 ?_
  refine lv_topl (fun x_2 ex_2 => ?_)
  obtain rfl : x_2 = 0 := ex_2
  refine lv_lor hx hb dX8_leastLacking_12 ?_
  refine lv_topl (fun x_3 ex_3 => ?_)
  obtain rfl : x_3 = 0 := ex_3.trans (by decide)
  refine lv_lstore_n (lv' := [(1, .long 0), (0, .ref h0)]) hx hb dX8_leastLacking_13 rfl hl (by decide) rfl (fun ls hl => ?_)
  refine lv_iconst (v := 0) hx hb dX8_leastLacking_14 (by decide) ?_
  refine lv_istore_n (lv' := [(3, .int 0), (1, .long 0), (0, .ref h0)]) hx hb dX8_leastLacking_15 rfl hl (by decide) rfl (fun ls hl => ?_)
  refine lv_iload_n hx hb dX8_leastLacking_16 rfl (lv_at hl 0 rfl) ?_
  refine lv_aload_n hx hb dX8_leastLacking_17 rfl (lv_at hl 2 rfl) ?_
  refine va_get (D := (dC, dI)) (ci := 9) (v := .ref (a 0)) (C := RX8) (T := TX8) (N := 14) hx hb hts in_leastLacking_X8 hown hK hP 0 rfl rfl 0 (by decide) (hts (.fieldLink RX8 10 "ServiceTree" "services" "Ljava/util/ArrayList;") (by decide +kernel)) (fun _ h9 => h9) rfl dX8_leastLacking_18 ?_
  have hPc := hP.sub (ws' := [(a 0, .inr (0, [.int 0, .ref z, .int 0]))]) [1] rfl
  have hDc := hD.sub (ws' := [(a 0, .inr (0, [.int 0, .ref z, .int 0]))]) [1] (by decide) rfl
  have hKc := hK.sub (tys' := []) [] rfl
  have hFc := va_free (wc := [(a 0, .inr (0, [.int 0, .ref z, .int 0]))]) hD hS hA [1] rfl
  refine va_calli (va_runV (As := []) (rest := [.int 0]) ⟨hx, hb, hml, hown, hts⟩ (c_size l dC dI (a 0) z s.heap.size) (cwV 0 hts wc_leastLacking_size_61 rfl rfl rfl (by decide +kernel) ⟨Nat.le_of_ble_eq_true rfl, Nat.le_of_ble_eq_true rfl⟩) ⟨fun a U g mk q => by obtain ⟨q0, q1, qP, qK, qD, qN⟩ := q; exact ⟨q0, q1, qP, va_K.moved (u := U) (U := U.calling g mk a) (Vm.Alike.refl U.vm) qK, qD, pw_N.same (u := U) (U := U.calling g mk a) rfl qN⟩, va_recv hKc hPc (ci := 0) (q0 := 0) rfl rfl, fun U hU hW => ⟨rfl, by rw [hU], by rw [hU]; exact hPc, va_K.moved hW.alike hKc, hDc.weaken (fun _ _ _ _ => trivial), pw_N.warm hW hN⟩⟩ rfl rfl hl.1 rfl (lv_room (Nat.le_of_ble_eq_true rfl)) dX8_leastLacking_21 ⟨Nat.le_of_ble_eq_true rfl, Nat.le_of_ble_eq_true rfl⟩) hS (fun q _ h => hFc q h) hFc (fun r_4 u t H1 locs ht hvm hw hB hz1 hk1 hS => ?_)
  obtain ⟨hP1, hD1⟩ := hB
  rw [ht] at hP1
  obtain ⟨hP, hD⟩ := va_join (wr := [(h0, .inr (9, [.ref (a 0), .ref (a 1), .ref (a 2), .ref (a 3), .ref (a 4), .ref (a 5), .ref (a 6), .long 0, .long 0, .int nw, .int 0, .int 0, .int 0, .int 0])), (a 6, .inl (cI, 6, .inr (.inl (fun _ => 0))))]) (w1 := [(a 0, .inr (0, [.int 0, .ref z, .int 0]))]) hP hD [1] [0, 2] rfl rfl (by decide) (by decide) hk1 hFc hP1 hD1
  generalize H1 = H at hP hS ⊢
  replace hP : va_P (dC, dI) vwCl [(h0, .inr (9, [.ref (a 0), .ref (a 1), .ref (a 2), .ref (a 3), .ref (a 4), .ref (a 5), .ref (a 6), .long 0, .long 0, .int nw, .int 0, .int 0, .int 0, .int 0])), (a 6, .inl (cI, 6, .inr (.inl (fun _ => 0)))), (a 0, .inr (0, [.int 0, .ref z, .int 0]))] H := hP
  replace hD : va_D A [(h0, .inr (9, [.ref (a 0), .ref (a 1), .ref (a 2), .ref (a 3), .ref (a 4), .ref (a 5), .ref (a 6), .long 0, .long 0, .int nw, .int 0, .int 0, .int 0, .int 0])), (a 6, .inl (cI, 6, .inr (.inl (fun _ => 0)))), (a 0, .inr (0, [.int 0, .ref z, .int 0]))] := hD
  try dsimp only at hw
  subst hw
  refine lv_icmp_ge (tgt := 51) hx hb dX8_leastLacking_24 (by decide) (fun _ => ?_) (fun c9 => absurd (by decide) c9)
  refine lv_iconst (v := (-1)) hx hb dX8_leastLacking_51 (by decide) ?_
  have hP9 := hP.sub (ws' := [(h0, .inr (9, [.ref (a 0), .ref (a 1), .ref (a 2), .ref (a 3), .ref (a 4), .ref (a 5), .ref (a 6), .long 0, .long 0, .int nw, .int 0, .int 0, .int 0, .int 0])), (a 0, .inr (0, [.int 0, .ref z, .int 0])), (a 6, .inl (cI, 6, .inr (.inl (fun _ => 0))))]) [0, 2, 1] rfl
  have hD9 := hD.sub (ws' := [(h0, .inr (9, [.ref (a 0), .ref (a 1), .ref (a 2), .ref (a 3), .ref (a 4), .ref (a 5), .ref (a 6), .long 0, .long 0, .int nw, .int 0, .int 0, .int 0, .int 0])), (a 0, .inr (0, [.int 0, .ref z, .int 0])), (a 6, .inl (cI, 6, .inr (.inl (fun _ => 0))))]) [0, 2, 1] (by decide) rfl
  exact W.iret (v := (-1)) hx hb hr (fun t ht hW => ⟨⟨(-1), (), rfl, rfl, by rw [ht]; exact hP9, hD9⟩, hS.F ht⟩) hS.2.2 dX8_leastLacking_52
def wq_t_check : List Cond := [.code yX8_check cX8_check 2 (some .int), .fieldLink RX8 19 "ServiceTree" "relations" "LServiceTree$Relations;", .methodLink RX8 221 yX8_leastLacking, .instanceMethod yX8_leastLacking, .selects RX8 yX8_leastLacking yX8_leastLacking, .initialized RX8, .methodLink RX8 224 yX8_startingUpOrStopping, .instanceMethod yX8_startingUpOrStopping, .selects RX8 yX8_startingUpOrStopping yX8_startingUpOrStopping, .methodLink RX8 227 yX5_clash, .instanceMethod yX5_clash, .selects RX5 yX5_clash yX5_clash, .initialized RX5] ++ (wsX80 ++ (wq_leastLacking ++ (wq_sus ++ (wq_clash0))))
theorem in_t_check_X8 : ∀ w ∈ wsX80, w ∈ wq_t_check := fun _ h => List.mem_append_right _ (List.mem_append_left _ (h))
set_option maxRecDepth 20000 in
theorem wi_t_check : ∀ w ∈ wq_t_check, w ∈ lw_tbl := List.forall_mem_append.mpr ⟨(by decide +kernel), List.forall_mem_append.mpr ⟨inKX8, List.forall_mem_append.mpr ⟨wi_leastLacking, List.forall_mem_append.mpr ⟨wi_sus, wi_clash0⟩⟩⟩⟩
set_option maxRecDepth 20000 in
theorem wg_t_check : GoodIn wq_t_check wq_t_check := goodIn_sub (fun _ h => h) (by decide +kernel)
set_option maxRecDepth 20000 in
theorem wc_t_check_leastLacking_221 : GoodIn wq_t_check (wsV RX8 221 RX8 yX8_leastLacking wq_leastLacking) := goodIn_app (goodIn_of _ (by decide +kernel)) (fun w h => ⟨List.mem_append_right _ (List.mem_append_right _ (List.mem_append_left _ (h))), (wg_leastLacking w h).2⟩)
set_option maxRecDepth 20000 in
theorem wc_t_check_sus_224 : GoodIn wq_t_check (wsV RX8 224 RX8 yX8_startingUpOrStopping wq_sus) := goodIn_app (goodIn_of _ (by decide +kernel)) (fun w h => ⟨List.mem_append_right _ (List.mem_append_right _ (List.mem_append_right _ (List.mem_append_left _ (h)))), (wg_sus w h).2⟩)
set_option maxRecDepth 20000 in
theorem wc_t_check_clash0_227 : GoodIn wq_t_check (wsV RX8 227 RX5 yX5_clash wq_clash0) := goodIn_app (goodIn_of _ (by decide +kernel)) (fun w h => ⟨List.mem_append_right _ (List.mem_append_right _ (List.mem_append_right _ (List.mem_append_right _ (h)))), (wg_clash0 w h).2⟩)
set_option maxHeartbeats 4000000 in
set_option maxRecDepth 100000 in
theorem c_t_check (l : Launch) (dC : Nat → ClassId) (dI : Nat → Nat → Nat) (h0 : Nat) (a : Nat → Nat) (nw : Int32) (z : Nat) (cI : ClassId) (g0 : Nat) (g1 : Nat) (rr : Nat → Nat) (cO : ClassId) (cR : ClassId) (sz : Nat) : Met l yX8_check wq_t_check ({ frames := 3, cells := 0, slots := 0, locals := 69 }) (va_Pc [.ref h0] (fun U => U.heap.size = sz ∧ va_P (dC, dI) vwCl [(h0, .inr (9, [.ref (a 0), .ref (a 1), .ref (a 2), .ref (a 3), .ref (a 4), .ref (a 5), .ref (a 6), .long 0, .long 0, .int nw, .int 0, .int 0, .int 0, .int 0])), (a 0, .inr (0, [.int 0, .ref z, .int 0])), (a 6, .inl (cI, 6, .inr (.inl (fun _ => 0)))), (a 1, .inr (6, [.ref g0, .ref g1, .int 0])), (g0, .inl (cO, 4, .inr (.inr (.inr (.inr (fun i => if i < 4 then some (rr i) else none)))))), (rr 3, .inl (cR, 40, .inr (.inl (fun _ => 0))))] U.heap ∧ va_K (dC, dI) vwCl [(cI, .long), (cO, .array .long), (cR, .long)] U ∧ va_D (fun _ => True) [(h0, .inr (9, [.ref (a 0), .ref (a 1), .ref (a 2), .ref (a 3), .ref (a 4), .ref (a 5), .ref (a 6), .long 0, .long 0, .int nw, .int 0, .int 0, .int 0, .int 0])), (a 0, .inr (0, [.int 0, .ref z, .int 0])), (a 6, .inl (cI, 6, .inr (.inl (fun _ => 0)))), (a 1, .inr (6, [.ref g0, .ref g1, .int 0])), (g0, .inl (cO, 4, .inr (.inr (.inr (.inr (fun i => if i < 4 then some (rr i) else none)))))), (rr 3, .inl (cR, 40, .inr (.inl (fun _ => 0))))] ∧ pw_N U)) (va_Qi (fun (r : Int32) (_ : Unit) => r = 0) (fun (_ : Unit) (t : State) => True) (va_A [(h0, .inr (9, [.ref (a 0), .ref (a 1), .ref (a 2), .ref (a 3), .ref (a 4), .ref (a 5), .ref (a 6), .long 0, .long 0, .int nw, .int 0, .int 0, .int 0, .int 0])), (a 0, .inr (0, [.int 0, .ref z, .int 0])), (a 6, .inl (cI, 6, .inr (.inl (fun _ => 0)))), (a 1, .inr (6, [.ref g0, .ref g1, .int 0])), (g0, .inl (cO, 4, .inr (.inr (.inr (.inr (fun i => if i < 4 then some (rr i) else none)))))), (rr 3, .inl (cR, 40, .inr (.inl (fun _ => 0))))] sz)) 0 0 (va_A [(h0, .inr (9, [.ref (a 0), .ref (a 1), .ref (a 2), .ref (a 3), .ref (a 4), .ref (a 5), .ref (a 6), .long 0, .long 0, .int nw, .int 0, .int 0, .int 0, .int 0])), (a 0, .inr (0, [.int 0, .ref z, .int 0])), (a 6, .inl (cI, 6, .inr (.inl (fun _ => 0)))), (a 1, .inr (6, [.ref g0, .ref g1, .int 0])), (g0, .inl (cO, 4, .inr (.inr (.inr (.inr (fun i => if i < 4 then some (rr i) else none)))))), (rr 3, .inl (cR, 40, .inr (.inl (fun _ => 0))))] sz) := by
  refine Met.ofW (cc := cX8_check) (maxL := 2) (ret := (some .int)) (by decide) rfl ?_
  intro p e s m args below meth c s₁ B hml hv
  obtain ⟨rfl, hsz, hP, hK, hD0, hN⟩ := hv
  have hx := B.exec
  have hb := B.bytes
  have hr := B.returns
  have hts := atoms_spec (ws := wq_t_check) B.pre
  have hown : s.vm.findClass RX8 = some m.cls := findClass_of_methodNamed B.named
  have hlocks := B.notSynchronized
  subst hsz
  have hD := hD0.self (sz := s.heap.size)
  generalize hAe : va_A [(h0, .inr (9, [.ref (a 0), .ref (a 1), .ref (a 2), .ref (a 3), .ref (a 4), .ref (a 5), .ref (a 6), .long 0, .long 0, .int nw, .int 0, .int 0, .int 0, .int 0])), (a 0, .inr (0, [.int 0, .ref z, .int 0])), (a 6, .inl (cI, 6, .inr (.inl (fun _ => 0)))), (a 1, .inr (6, [.ref g0, .ref g1, .int 0])), (g0, .inl (cO, 4, .inr (.inr (.inr (.inr (fun i => if i < 4 then some (rr i) else none)))))), (rr 3, .inl (cR, 40, .inr (.inl (fun _ => 0))))] s.heap.size = A at hD ⊢
  have hA : ∀ q : Nat, s.heap.size ≤ q → A q := fun q h => by rw [← hAe]; exact Or.inr h
  have hS : va_S A s.heap s.heap [] := va_S.rf
  have hP : va_P (dC, dI) vwCl [(h0, .inr (9, [.ref (a 0), .ref (a 1), .ref (a 2), .ref (a 3), .ref (a 4), .ref (a 5), .ref (a 6), .long 0, .long 0, .int nw, .int 0, .int 0, .int 0, .int 0])), (a 0, .inr (0, [.int 0, .ref z, .int 0])), (a 6, .inl (cI, 6, .inr (.inl (fun _ => 0)))), (a 1, .inr (6, [.ref g0, .ref g1, .int 0])), (g0, .inl (cO, 4, .inr (.inr (.inr (.inr (fun i => if i < 4 then some (rr i) else none)))))), (rr 3, .inl (cR, 40, .inr (.inl (fun _ => 0))))] s.heap := hP
  have hl := lv_entry ([.ref h0]) (n := 2) (Nat.le_of_ble_eq_true rfl)
  rw [lg_entry_eq]
  generalize (lg_sl ([.ref h0]) ++ List.replicate (2 - (lg_sl ([.ref h0])).length) Slot.unset).toArray = ls at hl ⊢
  have hl : lv_has ls 2 [(0, .ref h0)] := hl
  refine lv_iconst (v := 0) hx hb dX8_check_0 (by decide) ?_
  refine lv_istore_n (lv' := [(1, .int 0), (0, .ref h0)]) hx hb dX8_check_1 rfl hl (by decide) rfl (fun ls hl => ?_)
  refine lv_aload_n hx hb dX8_check_2 rfl (lv_at hl 1 rfl) ?_
  have hPc := hP.sub (ws' := [(h0, .inr (9, [.ref (a 0), .ref (a 1), .ref (a 2), .ref (a 3), .ref (a 4), .ref (a 5), .ref (a 6), .long 0, .long 0, .int nw, .int 0, .int 0, .int 0, .int 0])), (a 0, .inr (0, [.int 0, .ref z, .int 0])), (a 6, .inl (cI, 6, .inr (.inl (fun _ => 0))))]) [0, 1, 2] rfl
  have hDc := hD.sub (ws' := [(h0, .inr (9, [.ref (a 0), .ref (a 1), .ref (a 2), .ref (a 3), .ref (a 4), .ref (a 5), .ref (a 6), .long 0, .long 0, .int nw, .int 0, .int 0, .int 0, .int 0])), (a 0, .inr (0, [.int 0, .ref z, .int 0])), (a 6, .inl (cI, 6, .inr (.inl (fun _ => 0))))]) [0, 1, 2] (by decide) rfl
  have hKc := hK.sub (tys' := [(cI, .long)]) [0] rfl
  have hFc := va_free (wc := [(h0, .inr (9, [.ref (a 0), .ref (a 1), .ref (a 2), .ref (a 3), .ref (a 4), .ref (a 5), .ref (a 6), .long 0, .long 0, .int nw, .int 0, .int 0, .int 0, .int 0])), (a 0, .inr (0, [.int 0, .ref z, .int 0])), (a 6, .inl (cI, 6, .inr (.inl (fun _ => 0))))]) hD hS hA [0, 1, 2] rfl
  refine va_calli (va_runV (As := []) (rest := []) ⟨hx, hb, hml, hown, hts⟩ (c_leastLacking l dC dI h0 a nw z cI s.heap.size) (cwV 0 hts wc_t_check_leastLacking_221 rfl rfl rfl (by decide +kernel) ⟨Nat.le_of_ble_eq_true rfl, Nat.le_of_ble_eq_true rfl⟩) ⟨fun a U g mk q => by obtain ⟨q0, q1, qP, qK, qD, qN⟩ := q; exact ⟨q0, q1, qP, va_K.moved (u := U) (U := U.calling g mk a) (Vm.Alike.refl U.vm) qK, qD, pw_N.same (u := U) (U := U.calling g mk a) rfl qN⟩, va_recv hKc hPc (ci := 9) (q0 := 0) rfl rfl, fun U hU hW => ⟨rfl, by rw [hU], by rw [hU]; exact hPc, va_K.moved hW.alike hKc, hDc.weaken (fun _ _ _ _ => trivial), pw_N.warm hW hN⟩⟩ rfl rfl hl.1 rfl (lv_room (Nat.le_of_ble_eq_true rfl)) dX8_check_3 ⟨Nat.le_of_ble_eq_true rfl, Nat.le_of_ble_eq_true rfl⟩) hS (fun q _ h => hFc q h) hFc (fun r_1 u t H1 locs ht hvm hw hB hz1 hk1 hS => ?_)
  obtain ⟨hP1, hD1⟩ := hB
  rw [ht] at hP1
  obtain ⟨hP, hD⟩ := va_join (wr := [(a 1, .inr (6, [.ref g0, .ref g1, .int 0])), (g0, .inl (cO, 4, .inr (.inr (.inr (.inr (fun i => if i < 4 then some (rr i) else none)))))), (rr 3, .inl (cR, 40, .inr (.inl (fun _ => 0))))]) (w1 := [(h0, .inr (9, [.ref (a 0), .ref (a 1), .ref (a 2), .ref (a 3), .ref (a 4), .ref (a 5), .ref (a 6), .long 0, .long 0, .int nw, .int 0, .int 0, .int 0, .int 0])), (a 0, .inr (0, [.int 0, .ref z, .int 0])), (a 6, .inl (cI, 6, .inr (.inl (fun _ => 0))))]) hP hD [0, 1, 2] [3, 4, 5] rfl rfl (by decide) (by decide) hk1 hFc hP1 hD1
  generalize H1 = H at hP hS ⊢
  replace hP : va_P (dC, dI) vwCl [(a 1, .inr (6, [.ref g0, .ref g1, .int 0])), (g0, .inl (cO, 4, .inr (.inr (.inr (.inr (fun i => if i < 4 then some (rr i) else none)))))), (rr 3, .inl (cR, 40, .inr (.inl (fun _ => 0)))), (h0, .inr (9, [.ref (a 0), .ref (a 1), .ref (a 2), .ref (a 3), .ref (a 4), .ref (a 5), .ref (a 6), .long 0, .long 0, .int nw, .int 0, .int 0, .int 0, .int 0])), (a 0, .inr (0, [.int 0, .ref z, .int 0])), (a 6, .inl (cI, 6, .inr (.inl (fun _ => 0))))] H := hP
  replace hD : va_D A [(a 1, .inr (6, [.ref g0, .ref g1, .int 0])), (g0, .inl (cO, 4, .inr (.inr (.inr (.inr (fun i => if i < 4 then some (rr i) else none)))))), (rr 3, .inl (cR, 40, .inr (.inl (fun _ => 0)))), (h0, .inr (9, [.ref (a 0), .ref (a 1), .ref (a 2), .ref (a 3), .ref (a 4), .ref (a 5), .ref (a 6), .long 0, .long 0, .int nw, .int 0, .int 0, .int 0, .int 0])), (a 0, .inr (0, [.int 0, .ref z, .int 0])), (a 6, .inl (cI, 6, .inr (.inl (fun _ => 0))))] := hD
  try dsimp only at hw
  subst hw
  refine lv_if_lt (tgt := 12) hx hb dX8_check_6 (by decide) (fun _ => ?_) (fun c9 => absurd (by decide) c9)
  refine lv_aload_n hx hb dX8_check_12 rfl (lv_at hl 1 rfl) ?_
  refine va_get (D := (dC, dI)) (ci := 9) (v := .ref (a 1)) (C := RX8) (T := TX8) (N := 14) hx hb hts in_t_check_X8 hown hK hP 3 rfl rfl 1 (by decide) (hts (.fieldLink RX8 19 "ServiceTree" "relations" "LServiceTree$Relations;") (by decide +kernel)) (fun _ h9 => h9) rfl dX8_check_13 ?_
  refine lv_aload_n hx hb dX8_check_16 rfl (lv_at hl 1 rfl) ?_
  have hPc := hP.sub (ws' := [(h0, .inr (9, [.ref (a 0), .ref (a 1), .ref (a 2), .ref (a 3), .ref (a 4), .ref (a 5), .ref (a 6), .long 0, .long 0, .int nw, .int 0, .int 0, .int 0, .int 0])), (a 6, .inl (cI, 6, .inr (.inl (fun _ => 0))))]) [3, 5] rfl
  have hDc := hD.sub (ws' := [(h0, .inr (9, [.ref (a 0), .ref (a 1), .ref (a 2), .ref (a 3), .ref (a 4), .ref (a 5), .ref (a 6), .long 0, .long 0, .int nw, .int 0, .int 0, .int 0, .int 0])), (a 6, .inl (cI, 6, .inr (.inl (fun _ => 0))))]) [3, 5] (by decide) rfl
  have hKc := hK.sub (tys' := [(cI, .long)]) [0] rfl
  have hFc := va_free (wc := [(h0, .inr (9, [.ref (a 0), .ref (a 1), .ref (a 2), .ref (a 3), .ref (a 4), .ref (a 5), .ref (a 6), .long 0, .long 0, .int nw, .int 0, .int 0, .int 0, .int 0])), (a 6, .inl (cI, 6, .inr (.inl (fun _ => 0))))]) hD hS hA [3, 5] rfl
  refine va_calll (va_runV (As := []) (rest := [.ref (a 1)]) ⟨hx, hb, hml, hown, hts⟩ (c_sus l dC dI h0 a nw cI H.size) (cwV 0 hts wc_t_check_sus_224 rfl rfl rfl (by decide +kernel) ⟨Nat.le_of_ble_eq_true rfl, Nat.le_of_ble_eq_true rfl⟩) ⟨fun a U g mk q => by obtain ⟨q0, q1, qP, qK, qD, qN⟩ := q; exact ⟨q0, q1, qP, va_K.moved (u := U) (U := U.calling g mk a) (Vm.Alike.refl U.vm) qK, qD, pw_N.same (u := U) (U := U.calling g mk a) rfl qN⟩, va_recv hKc hPc (ci := 9) (q0 := 0) rfl rfl, fun U hU hW => ⟨rfl, by rw [hU], by rw [hU]; exact hPc, va_K.moved hW.alike hKc, hDc.weaken (fun _ _ _ _ => trivial), pw_N.warm hW hN⟩⟩ rfl rfl hl.1 rfl (lv_room (Nat.le_of_ble_eq_true rfl)) dX8_check_17 ⟨Nat.le_of_ble_eq_true rfl, Nat.le_of_ble_eq_true rfl⟩) hS (fun q _ h => hFc q h) hFc (fun r_2 u t H1 locs ht hvm hw hB hz1 hk1 hS => ?_)
  obtain ⟨hP1, hD1⟩ := hB
  rw [ht] at hP1
  obtain ⟨hP, hD⟩ := va_join (wr := [(a 1, .inr (6, [.ref g0, .ref g1, .int 0])), (g0, .inl (cO, 4, .inr (.inr (.inr (.inr (fun i => if i < 4 then some (rr i) else none)))))), (rr 3, .inl (cR, 40, .inr (.inl (fun _ => 0)))), (a 0, .inr (0, [.int 0, .ref z, .int 0]))]) (w1 := [(h0, .inr (9, [.ref (a 0), .ref (a 1), .ref (a 2), .ref (a 3), .ref (a 4), .ref (a 5), .ref (a 6), .long 0, .long 0, .int nw, .int 0, .int 0, .int 0, .int 0])), (a 6, .inl (cI, 6, .inr (.inl (fun _ => 0))))]) hP hD [3, 5] [0, 1, 2, 4] rfl rfl (by decide) (by decide) hk1 hFc hP1 hD1
  generalize H1 = H at hP hS ⊢
  replace hP : va_P (dC, dI) vwCl [(a 1, .inr (6, [.ref g0, .ref g1, .int 0])), (g0, .inl (cO, 4, .inr (.inr (.inr (.inr (fun i => if i < 4 then some (rr i) else none)))))), (rr 3, .inl (cR, 40, .inr (.inl (fun _ => 0)))), (a 0, .inr (0, [.int 0, .ref z, .int 0])), (h0, .inr (9, [.ref (a 0), .ref (a 1), .ref (a 2), .ref (a 3), .ref (a 4), .ref (a 5), .ref (a 6), .long 0, .long 0, .int nw, .int 0, .int 0, .int 0, .int 0])), (a 6, .inl (cI, 6, .inr (.inl (fun _ => 0))))] H := hP
  replace hD : va_D A [(a 1, .inr (6, [.ref g0, .ref g1, .int 0])), (g0, .inl (cO, 4, .inr (.inr (.inr (.inr (fun i => if i < 4 then some (rr i) else none)))))), (rr 3, .inl (cR, 40, .inr (.inl (fun _ => 0)))), (a 0, .inr (0, [.int 0, .ref z, .int 0])), (h0, .inr (9, [.ref (a 0), .ref (a 1), .ref (a 2), .ref (a 3), .ref (a 4), .ref (a 5), .ref (a 6), .long 0, .long 0, .int nw, .int 0, .int 0, .int 0, .int 0])), (a 6, .inl (cI, 6, .inr (.inl (fun _ => 0))))] := hD
  try dsimp only at hw
  subst hw
  have hPc := hP.sub (ws' := [(a 1, .inr (6, [.ref g0, .ref g1, .int 0])), (g0, .inl (cO, 4, .inr (.inr (.inr (.inr (fun i => if i < 4 then some (rr i) else none)))))), (rr 3, .inl (cR, 40, .inr (.inl (fun _ => 0))))]) [0, 1, 2] rfl
  have hDc := hD.sub (ws' := [(a 1, .inr (6, [.ref g0, .ref g1, .int 0])), (g0, .inl (cO, 4, .inr (.inr (.inr (.inr (fun i => if i < 4 then some (rr i) else none)))))), (rr 3, .inl (cR, 40, .inr (.inl (fun _ => 0))))]) [0, 1, 2] (by decide) rfl
  have hKc := hK.sub (tys' := [(cO, .array .long), (cR, .long)]) [1, 2] rfl
  have hFc := va_free (wc := [(a 1, .inr (6, [.ref g0, .ref g1, .int 0])), (g0, .inl (cO, 4, .inr (.inr (.inr (.inr (fun i => if i < 4 then some (rr i) else none)))))), (rr 3, .inl (cR, 40, .inr (.inl (fun _ => 0))))]) hD hS hA [0, 1, 2] rfl
  refine va_calli (va_runV (As := [.long 0]) (rest := []) ⟨hx, hb, hml, hown, hts⟩ (c_clash0 l dC dI (a 1) g0 g1 rr cO cR H.size) (cwV 1 hts wc_t_check_clash0_227 rfl rfl rfl (by decide +kernel) ⟨Nat.le_of_ble_eq_true rfl, Nat.le_of_ble_eq_true rfl⟩) ⟨fun a U g mk q => by obtain ⟨q0, q1, qP, qK, qD, qN⟩ := q; exact ⟨q0, q1, qP, va_K.moved (u := U) (U := U.calling g mk a) (Vm.Alike.refl U.vm) qK, qD, pw_N.same (u := U) (U := U.calling g mk a) rfl qN⟩, va_recv hKc hPc (ci := 6) (q0 := 0) rfl rfl, fun U hU hW => ⟨rfl, by rw [hU], by rw [hU]; exact hPc, va_K.moved hW.alike hKc, hDc.weaken (fun _ _ _ _ => trivial), pw_N.warm hW hN⟩⟩ rfl rfl hl.1 rfl (lv_room (Nat.le_of_ble_eq_true rfl)) dX8_check_20 ⟨Nat.le_of_ble_eq_true rfl, Nat.le_of_ble_eq_true rfl⟩) hS (fun q _ h => hFc q h) hFc (fun r_3 u t H1 locs ht hvm hw hB hz1 hk1 hS => ?_)
  obtain ⟨hP1, hD1⟩ := hB
  rw [ht] at hP1
  obtain ⟨hP, hD⟩ := va_join (wr := [(a 0, .inr (0, [.int 0, .ref z, .int 0])), (h0, .inr (9, [.ref (a 0), .ref (a 1), .ref (a 2), .ref (a 3), .ref (a 4), .ref (a 5), .ref (a 6), .long 0, .long 0, .int nw, .int 0, .int 0, .int 0, .int 0])), (a 6, .inl (cI, 6, .inr (.inl (fun _ => 0))))]) (w1 := [(a 1, .inr (6, [.ref g0, .ref g1, .int 0])), (g0, .inl (cO, 4, .inr (.inr (.inr (.inr (fun i => if i < 4 then some (rr i) else none)))))), (rr 3, .inl (cR, 40, .inr (.inl (fun _ => 0))))]) hP hD [0, 1, 2] [3, 4, 5] rfl rfl (by decide) (by decide) hk1 hFc hP1 hD1
  generalize H1 = H at hP hS ⊢
  replace hP : va_P (dC, dI) vwCl [(a 0, .inr (0, [.int 0, .ref z, .int 0])), (h0, .inr (9, [.ref (a 0), .ref (a 1), .ref (a 2), .ref (a 3), .ref (a 4), .ref (a 5), .ref (a 6), .long 0, .long 0, .int nw, .int 0, .int 0, .int 0, .int 0])), (a 6, .inl (cI, 6, .inr (.inl (fun _ => 0)))), (a 1, .inr (6, [.ref g0, .ref g1, .int 0])), (g0, .inl (cO, 4, .inr (.inr (.inr (.inr (fun i => if i < 4 then some (rr i) else none)))))), (rr 3, .inl (cR, 40, .inr (.inl (fun _ => 0))))] H := hP
  replace hD : va_D A [(a 0, .inr (0, [.int 0, .ref z, .int 0])), (h0, .inr (9, [.ref (a 0), .ref (a 1), .ref (a 2), .ref (a 3), .ref (a 4), .ref (a 5), .ref (a 6), .long 0, .long 0, .int nw, .int 0, .int 0, .int 0, .int 0])), (a 6, .inl (cI, 6, .inr (.inl (fun _ => 0)))), (a 1, .inr (6, [.ref g0, .ref g1, .int 0])), (g0, .inl (cO, 4, .inr (.inr (.inr (.inr (fun i => if i < 4 then some (rr i) else none)))))), (rr 3, .inl (cR, 40, .inr (.inl (fun _ => 0))))] := hD
  try dsimp only at hw
  subst hw
  refine lv_if_eq (tgt := 29) hx hb dX8_check_23 (by decide) (fun _ => ?_) (fun c9 => absurd (by decide) c9)
  refine lv_iload_n hx hb dX8_check_29 rfl (lv_at hl 0 rfl) ?_
  exact W.iret (v := 0) hx hb hr (fun t ht hW => ⟨⟨0, (), rfl, rfl, trivial⟩, hS.F ht⟩) hS.2.2 dX8_check_30
