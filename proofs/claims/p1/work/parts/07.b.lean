theorem dX2_tell_0 : decode cX2_tell 0 = .ok (.iload_n 1, 1) := by decide +kernel
theorem dX2_tell_1 : decode cX2_tell 1 = .ok (.ifCond .lt 23, 3) := by decide +kernel
theorem dX2_tell_4 : decode cX2_tell 4 = .ok (.iload_n 1, 1) := by decide +kernel
theorem dX2_tell_5 : decode cX2_tell 5 = .ok (.aload_n 0, 1) := by decide +kernel
theorem dX2_tell_6 : decode cX2_tell 6 = .ok (.getfield 15, 3) := by decide +kernel
theorem dX2_tell_9 : decode cX2_tell 9 = .ok (.if_icmp .ge 15, 3) := by decide +kernel
theorem dX2_tell_24 : decode cX2_tell 24 = .ok (.iconst (-1), 1) := by decide +kernel
theorem dX2_tell_25 : decode cX2_tell 25 = .ok (.ireturn, 1) := by decide +kernel
theorem dX3_left_0 : decode cX3_left 0 = .ok (.aload_n 0, 1) := by decide +kernel
theorem dX3_left_1 : decode cX3_left 1 = .ok (.getfield 15, 3) := by decide +kernel
theorem dX3_left_4 : decode cX3_left 4 = .ok (.aload_n 0, 1) := by decide +kernel
theorem dX3_left_5 : decode cX3_left 5 = .ok (.getfield 19, 3) := by decide +kernel
theorem dX3_left_8 : decode cX3_left 8 = .ok (.lor, 1) := by decide +kernel
theorem dX3_left_9 : decode cX3_left 9 = .ok (.lreturn, 1) := by decide +kernel
theorem dX4_tell_0 : decode cX4_tell 0 = .ok (.iload_n 1, 1) := by decide +kernel
theorem dX4_tell_1 : decode cX4_tell 1 = .ok (.iconst 0, 1) := by decide +kernel
theorem dX4_tell_2 : decode cX4_tell 2 = .ok (.aload_n 0, 1) := by decide +kernel
theorem dX4_tell_3 : decode cX4_tell 3 = .ok (.getfield 25, 3) := by decide +kernel
theorem dX4_tell_6 : decode cX4_tell 6 = .ok (.iconst 1, 1) := by decide +kernel
theorem dX4_tell_7 : decode cX4_tell 7 = .ok (.isub, 1) := by decide +kernel
theorem dX4_tell_8 : decode cX4_tell 8 = .ok (.invokestatic 50, 3) := by decide +kernel
theorem dX4_tell_11 : decode cX4_tell 11 = .ok (.ifCond .ne 5, 3) := by decide +kernel
theorem dX4_tell_14 : decode cX4_tell 14 = .ok (.iconst (-1), 1) := by decide +kernel
theorem dX4_tell_15 : decode cX4_tell 15 = .ok (.ireturn, 1) := by decide +kernel
theorem dX8_order_0 : decode cX8_order 0 = .ok (.aload_n 0, 1) := by decide +kernel
theorem dX8_order_1 : decode cX8_order 1 = .ok (.iload_n 1, 1) := by decide +kernel
theorem dX8_order_2 : decode cX8_order 2 = .ok (.iload_n 2, 1) := by decide +kernel
theorem dX8_order_3 : decode cX8_order 3 = .ok (.invokevirtual 128, 3) := by decide +kernel
theorem dX8_order_6 : decode cX8_order 6 = .ok (.istore_n 3, 1) := by decide +kernel
theorem dX8_order_7 : decode cX8_order 7 = .ok (.aload_n 0, 1) := by decide +kernel
theorem dX8_order_8 : decode cX8_order 8 = .ok (.iload_n 3, 1) := by decide +kernel
theorem dX8_order_9 : decode cX8_order 9 = .ok (.invokevirtual 132, 3) := by decide +kernel
theorem dX8_order_12 : decode cX8_order 12 = .ok (.iload_n 3, 1) := by decide +kernel
theorem dX8_order_13 : decode cX8_order 13 = .ok (.ifCond .lt 7, 3) := by decide +kernel
theorem dX8_order_20 : decode cX8_order 20 = .ok (.iload_n 3, 1) := by decide +kernel
theorem dX8_order_21 : decode cX8_order 21 = .ok (.ireturn, 1) := by decide +kernel
theorem dX8_in_0 : decode cX8_in 0 = .ok (.iload_n 1, 1) := by decide +kernel
theorem dX8_in_1 : decode cX8_in 1 = .ok (.iconst 0, 1) := by decide +kernel
theorem dX8_in_2 : decode cX8_in 2 = .ok (.iconst 5, 1) := by decide +kernel
theorem dX8_in_3 : decode cX8_in 3 = .ok (.invokestatic 57, 3) := by decide +kernel
theorem dX8_in_6 : decode cX8_in 6 = .ok (.ifCond .ne 5, 3) := by decide +kernel
theorem dX8_in_9 : decode cX8_in 9 = .ok (.iconst (-1), 1) := by decide +kernel
theorem dX8_in_10 : decode cX8_in 10 = .ok (.ireturn, 1) := by decide +kernel
theorem dX8_in_11 : decode cX8_in 11 = .ok (.aload_n 0, 1) := by decide +kernel
theorem dX8_in_12 : decode cX8_in 12 = .ok (.getfield 53, 3) := by decide +kernel
theorem dX8_in_15 : decode cX8_in 15 = .ok (.iload_n 1, 1) := by decide +kernel
theorem dX8_in_16 : decode cX8_in 16 = .ok (.laload, 1) := by decide +kernel
theorem dX8_in_17 : decode cX8_in 17 = .ok (.invokestatic 189, 3) := by decide +kernel
theorem dX8_in_20 : decode cX8_in 20 = .ok (.ireturn, 1) := by decide +kernel
theorem dX8_count_0 : decode cX8_count 0 = .ok (.iload_n 1, 1) := by decide +kernel
theorem dX8_count_1 : decode cX8_count 1 = .ok (.tableswitch 81 0 5 #[39, 47, 55, 66, 71, 76], 39) := by decide +kernel
theorem dX8_count_40 : decode cX8_count 40 = .ok (.aload_n 0, 1) := by decide +kernel
theorem dX8_count_41 : decode cX8_count 41 = .ok (.getfield 10, 3) := by decide +kernel
theorem dX8_count_44 : decode cX8_count 44 = .ok (.invokevirtual 61, 3) := by decide +kernel
theorem dX8_count_47 : decode cX8_count 47 = .ok (.ireturn, 1) := by decide +kernel
theorem dX8_count_48 : decode cX8_count 48 = .ok (.aload_n 0, 1) := by decide +kernel
theorem dX8_count_49 : decode cX8_count 49 = .ok (.getfield 19, 3) := by decide +kernel
theorem dX8_count_52 : decode cX8_count 52 = .ok (.getfield 121, 3) := by decide +kernel
theorem dX8_count_55 : decode cX8_count 55 = .ok (.ireturn, 1) := by decide +kernel
theorem dX8_count_56 : decode cX8_count 56 = .ok (.aload_n 0, 1) := by decide +kernel
theorem dX8_count_57 : decode cX8_count 57 = .ok (.getfield 35, 3) := by decide +kernel
theorem dX8_count_60 : decode cX8_count 60 = .ok (.invokevirtual 110, 3) := by decide +kernel
theorem dX8_count_63 : decode cX8_count 63 = .ok (.invokestatic 189, 3) := by decide +kernel
theorem dX8_count_66 : decode cX8_count 66 = .ok (.ireturn, 1) := by decide +kernel
theorem dX8_count_67 : decode cX8_count 67 = .ok (.aload_n 0, 1) := by decide +kernel
theorem dX8_count_68 : decode cX8_count 68 = .ok (.getfield 67, 3) := by decide +kernel
theorem dX8_count_71 : decode cX8_count 71 = .ok (.ireturn, 1) := by decide +kernel
theorem dX8_count_72 : decode cX8_count 72 = .ok (.aload_n 0, 1) := by decide +kernel
theorem dX8_count_73 : decode cX8_count 73 = .ok (.getfield 152, 3) := by decide +kernel
theorem dX8_count_76 : decode cX8_count 76 = .ok (.ireturn, 1) := by decide +kernel
theorem dX8_count_77 : decode cX8_count 77 = .ok (.aload_n 0, 1) := by decide +kernel
theorem dX8_count_78 : decode cX8_count 78 = .ok (.getfield 195, 3) := by decide +kernel
theorem dX8_count_81 : decode cX8_count 81 = .ok (.ireturn, 1) := by decide +kernel
theorem dX8_count_82 : decode cX8_count 82 = .ok (.iconst (-1), 1) := by decide +kernel
theorem dX8_count_83 : decode cX8_count 83 = .ok (.ireturn, 1) := by decide +kernel
theorem dX8_plan_0 : decode cX8_plan 0 = .ok (.aload_n 0, 1) := by decide +kernel
theorem dX8_plan_1 : decode cX8_plan 1 = .ok (.iload_n 1, 1) := by decide +kernel
theorem dX8_plan_2 : decode cX8_plan 2 = .ok (.iload_n 2, 1) := by decide +kernel
theorem dX8_plan_3 : decode cX8_plan 3 = .ok (.invokevirtual 128, 3) := by decide +kernel
theorem dX8_plan_6 : decode cX8_plan 6 = .ok (.istore_n 3, 1) := by decide +kernel
theorem dX8_plan_7 : decode cX8_plan 7 = .ok (.aload_n 0, 1) := by decide +kernel
theorem dX8_plan_8 : decode cX8_plan 8 = .ok (.iload_n 3, 1) := by decide +kernel
theorem dX8_plan_9 : decode cX8_plan 9 = .ok (.invokevirtual 132, 3) := by decide +kernel
theorem dX8_plan_12 : decode cX8_plan 12 = .ok (.iload_n 3, 1) := by decide +kernel
theorem dX8_plan_13 : decode cX8_plan 13 = .ok (.ifCond .lt 7, 3) := by decide +kernel
theorem dX8_plan_20 : decode cX8_plan 20 = .ok (.iload_n 3, 1) := by decide +kernel
theorem dX8_plan_21 : decode cX8_plan 21 = .ok (.ireturn, 1) := by decide +kernel
theorem dX8_planned_0 : decode cX8_planned 0 = .ok (.aload_n 0, 1) := by decide +kernel
theorem dX8_planned_1 : decode cX8_planned 1 = .ok (.getfield 42, 3) := by decide +kernel
theorem dX8_planned_4 : decode cX8_planned 4 = .ok (.iload_n 1, 1) := by decide +kernel
theorem dX8_planned_5 : decode cX8_planned 5 = .ok (.iload_n 2, 1) := by decide +kernel
theorem dX8_planned_6 : decode cX8_planned 6 = .ok (.invokevirtual 207, 3) := by decide +kernel
theorem dX8_planned_9 : decode cX8_planned 9 = .ok (.ireturn, 1) := by decide +kernel
theorem dX8_quick_0 : decode cX8_quick 0 = .ok (.aload_n 0, 1) := by decide +kernel
theorem dX8_quick_1 : decode cX8_quick 1 = .ok (.getfield 42, 3) := by decide +kernel
theorem dX8_quick_4 : decode cX8_quick 4 = .ok (.getfield 210, 3) := by decide +kernel
theorem dX8_quick_7 : decode cX8_quick 7 = .ok (.ifCond .eq 13, 3) := by decide +kernel
theorem dX8_quick_20 : decode cX8_quick 20 = .ok (.iconst (-1), 1) := by decide +kernel
theorem dX8_quick_21 : decode cX8_quick 21 = .ok (.ireturn, 1) := by decide +kernel
theorem dX8_ring_0 : decode cX8_ring 0 = .ok (.aload_n 0, 1) := by decide +kernel
theorem dX8_ring_1 : decode cX8_ring 1 = .ok (.getfield 216, 3) := by decide +kernel
theorem dX8_ring_4 : decode cX8_ring 4 = .ok (.ireturn, 1) := by decide +kernel
theorem dX8_changes_0 : decode cX8_changes 0 = .ok (.aload_n 0, 1) := by decide +kernel
theorem dX8_changes_1 : decode cX8_changes 1 = .ok (.getfield 49, 3) := by decide +kernel
theorem dX8_changes_4 : decode cX8_changes 4 = .ok (.getfield 219, 3) := by decide +kernel
theorem dX8_changes_7 : decode cX8_changes 7 = .ok (.ireturn, 1) := by decide +kernel
theorem dX8_change_0 : decode cX8_change 0 = .ok (.aload_n 0, 1) := by decide +kernel
theorem dX8_change_1 : decode cX8_change 1 = .ok (.getfield 49, 3) := by decide +kernel
theorem dX8_change_4 : decode cX8_change 4 = .ok (.iload_n 1, 1) := by decide +kernel
theorem dX8_change_5 : decode cX8_change 5 = .ok (.iload_n 2, 1) := by decide +kernel
theorem dX8_change_6 : decode cX8_change 6 = .ok (.invokevirtual 220, 3) := by decide +kernel
theorem dX8_change_9 : decode cX8_change 9 = .ok (.ireturn, 1) := by decide +kernel
theorem dX8_draftOrder_0 : decode cX8_draftOrder 0 = .ok (.iload_n 1, 1) := by decide +kernel
theorem dX8_draftOrder_1 : decode cX8_draftOrder 1 = .ok (.iconst 0, 1) := by decide +kernel
theorem dX8_draftOrder_2 : decode cX8_draftOrder 2 = .ok (.iconst 2, 1) := by decide +kernel
theorem dX8_draftOrder_3 : decode cX8_draftOrder 3 = .ok (.invokestatic 57, 3) := by decide +kernel
theorem dX8_draftOrder_6 : decode cX8_draftOrder 6 = .ok (.ifCond .eq 11, 3) := by decide +kernel
theorem dX8_draftOrder_9 : decode cX8_draftOrder 9 = .ok (.aload_n 0, 1) := by decide +kernel
theorem dX8_draftOrder_10 : decode cX8_draftOrder 10 = .ok (.iload_n 2, 1) := by decide +kernel
theorem dX8_draftOrder_11 : decode cX8_draftOrder 11 = .ok (.invokevirtual 82, 3) := by decide +kernel
theorem dX8_draftOrder_14 : decode cX8_draftOrder 14 = .ok (.ifCond .ne 5, 3) := by decide +kernel
theorem dX8_draftOrder_17 : decode cX8_draftOrder 17 = .ok (.iconst (-1), 1) := by decide +kernel
theorem dX8_draftOrder_18 : decode cX8_draftOrder 18 = .ok (.ireturn, 1) := by decide +kernel
theorem dX8_keepRing_0 : decode cX8_keepRing 0 = .ok (.iload_n 1, 1) := by decide +kernel
theorem dX8_keepRing_1 : decode cX8_keepRing 1 = .ok (.bipush (-5), 2) := by decide +kernel
theorem dX8_keepRing_3 : decode cX8_keepRing 3 = .ok (.if_icmp .ne 14, 3) := by decide +kernel
theorem dX8_keepRing_17 : decode cX8_keepRing 17 = .ok (.return_, 1) := by decide +kernel
theorem dJ13_bitCount_95d88_0 : decode cJ13_bitCount_95d88 0 = .ok (.lload_n 0, 1) := by decide +kernel
theorem dJ13_bitCount_95d88_1 : decode cJ13_bitCount_95d88 1 = .ok (.lload_n 0, 1) := by decide +kernel
theorem dJ13_bitCount_95d88_2 : decode cJ13_bitCount_95d88 2 = .ok (.iconst 1, 1) := by decide +kernel
theorem dJ13_bitCount_95d88_3 : decode cJ13_bitCount_95d88 3 = .ok (.lushr, 1) := by decide +kernel
theorem dJ13_bitCount_95d88_4 : decode cJ13_bitCount_95d88 4 = .ok (.ldc2_w 314, 3) := by decide +kernel
theorem dJ13_bitCount_95d88_7 : decode cJ13_bitCount_95d88 7 = .ok (.land, 1) := by decide +kernel
theorem dJ13_bitCount_95d88_8 : decode cJ13_bitCount_95d88 8 = .ok (.lsub, 1) := by decide +kernel
theorem dJ13_bitCount_95d88_9 : decode cJ13_bitCount_95d88 9 = .ok (.lstore_n 0, 1) := by decide +kernel
theorem dJ13_bitCount_95d88_10 : decode cJ13_bitCount_95d88 10 = .ok (.lload_n 0, 1) := by decide +kernel
theorem dJ13_bitCount_95d88_11 : decode cJ13_bitCount_95d88 11 = .ok (.ldc2_w 316, 3) := by decide +kernel
theorem dJ13_bitCount_95d88_14 : decode cJ13_bitCount_95d88 14 = .ok (.land, 1) := by decide +kernel
theorem dJ13_bitCount_95d88_15 : decode cJ13_bitCount_95d88 15 = .ok (.lload_n 0, 1) := by decide +kernel
theorem dJ13_bitCount_95d88_16 : decode cJ13_bitCount_95d88 16 = .ok (.iconst 2, 1) := by decide +kernel
theorem dJ13_bitCount_95d88_17 : decode cJ13_bitCount_95d88 17 = .ok (.lushr, 1) := by decide +kernel
theorem dJ13_bitCount_95d88_18 : decode cJ13_bitCount_95d88 18 = .ok (.ldc2_w 316, 3) := by decide +kernel
theorem dJ13_bitCount_95d88_21 : decode cJ13_bitCount_95d88 21 = .ok (.land, 1) := by decide +kernel
theorem dJ13_bitCount_95d88_22 : decode cJ13_bitCount_95d88 22 = .ok (.ladd, 1) := by decide +kernel
theorem dJ13_bitCount_95d88_23 : decode cJ13_bitCount_95d88 23 = .ok (.lstore_n 0, 1) := by decide +kernel
theorem dJ13_bitCount_95d88_24 : decode cJ13_bitCount_95d88 24 = .ok (.lload_n 0, 1) := by decide +kernel
theorem dJ13_bitCount_95d88_25 : decode cJ13_bitCount_95d88 25 = .ok (.lload_n 0, 1) := by decide +kernel
theorem dJ13_bitCount_95d88_26 : decode cJ13_bitCount_95d88 26 = .ok (.iconst 4, 1) := by decide +kernel
theorem dJ13_bitCount_95d88_27 : decode cJ13_bitCount_95d88 27 = .ok (.lushr, 1) := by decide +kernel
theorem dJ13_bitCount_95d88_28 : decode cJ13_bitCount_95d88 28 = .ok (.ladd, 1) := by decide +kernel
theorem dJ13_bitCount_95d88_29 : decode cJ13_bitCount_95d88 29 = .ok (.ldc2_w 318, 3) := by decide +kernel
theorem dJ13_bitCount_95d88_32 : decode cJ13_bitCount_95d88 32 = .ok (.land, 1) := by decide +kernel
theorem dJ13_bitCount_95d88_33 : decode cJ13_bitCount_95d88 33 = .ok (.lstore_n 0, 1) := by decide +kernel
theorem dJ13_bitCount_95d88_34 : decode cJ13_bitCount_95d88 34 = .ok (.lload_n 0, 1) := by decide +kernel
theorem dJ13_bitCount_95d88_35 : decode cJ13_bitCount_95d88 35 = .ok (.lload_n 0, 1) := by decide +kernel
theorem dJ13_bitCount_95d88_36 : decode cJ13_bitCount_95d88 36 = .ok (.bipush 8, 2) := by decide +kernel
theorem dJ13_bitCount_95d88_38 : decode cJ13_bitCount_95d88 38 = .ok (.lushr, 1) := by decide +kernel
theorem dJ13_bitCount_95d88_39 : decode cJ13_bitCount_95d88 39 = .ok (.ladd, 1) := by decide +kernel
theorem dJ13_bitCount_95d88_40 : decode cJ13_bitCount_95d88 40 = .ok (.lstore_n 0, 1) := by decide +kernel
theorem dJ13_bitCount_95d88_41 : decode cJ13_bitCount_95d88 41 = .ok (.lload_n 0, 1) := by decide +kernel
theorem dJ13_bitCount_95d88_42 : decode cJ13_bitCount_95d88 42 = .ok (.lload_n 0, 1) := by decide +kernel
theorem dJ13_bitCount_95d88_43 : decode cJ13_bitCount_95d88 43 = .ok (.bipush 16, 2) := by decide +kernel
theorem dJ13_bitCount_95d88_45 : decode cJ13_bitCount_95d88 45 = .ok (.lushr, 1) := by decide +kernel
theorem dJ13_bitCount_95d88_46 : decode cJ13_bitCount_95d88 46 = .ok (.ladd, 1) := by decide +kernel
theorem dJ13_bitCount_95d88_47 : decode cJ13_bitCount_95d88 47 = .ok (.lstore_n 0, 1) := by decide +kernel
theorem dJ13_bitCount_95d88_48 : decode cJ13_bitCount_95d88 48 = .ok (.lload_n 0, 1) := by decide +kernel
theorem dJ13_bitCount_95d88_49 : decode cJ13_bitCount_95d88 49 = .ok (.lload_n 0, 1) := by decide +kernel
theorem dJ13_bitCount_95d88_50 : decode cJ13_bitCount_95d88 50 = .ok (.bipush 32, 2) := by decide +kernel
theorem dJ13_bitCount_95d88_52 : decode cJ13_bitCount_95d88 52 = .ok (.lushr, 1) := by decide +kernel
theorem dJ13_bitCount_95d88_53 : decode cJ13_bitCount_95d88 53 = .ok (.ladd, 1) := by decide +kernel
theorem dJ13_bitCount_95d88_54 : decode cJ13_bitCount_95d88 54 = .ok (.lstore_n 0, 1) := by decide +kernel
theorem dJ13_bitCount_95d88_55 : decode cJ13_bitCount_95d88 55 = .ok (.lload_n 0, 1) := by decide +kernel
theorem dJ13_bitCount_95d88_56 : decode cJ13_bitCount_95d88 56 = .ok (.l2i, 1) := by decide +kernel
theorem dJ13_bitCount_95d88_57 : decode cJ13_bitCount_95d88 57 = .ok (.bipush 127, 2) := by decide +kernel
theorem dJ13_bitCount_95d88_59 : decode cJ13_bitCount_95d88 59 = .ok (.iand, 1) := by decide +kernel
theorem dJ13_bitCount_95d88_60 : decode cJ13_bitCount_95d88 60 = .ok (.ireturn, 1) := by decide +kernel
def wq_keepRing : List Cond := [.code yX8_keepRing cX8_keepRing 2 none]
set_option maxRecDepth 20000 in
theorem wi_keepRing : ∀ w ∈ wq_keepRing, w ∈ lw_tbl := (by decide +kernel)
set_option maxRecDepth 20000 in
theorem wg_keepRing : GoodIn wq_keepRing wq_keepRing := goodIn_sub (fun _ h => h) (by decide +kernel)
set_option maxHeartbeats 4000000 in
set_option maxRecDepth 100000 in
theorem c_keepRing (l : Launch) (dC : Nat → ClassId) (dI : Nat → Nat → Nat) (h0 : Nat) (a : Nat → Nat) (nw : Int32) (sz : Nat) : Met l yX8_keepRing wq_keepRing ({ frames := 0, cells := 0, slots := 0, locals := 0 }) (va_Pc [.ref h0, .int (-1)] (fun U => U.heap.size = sz ∧ va_P (dC, dI) vwCl [(h0, .inr (9, [.ref (a 0), .ref (a 1), .ref (a 2), .ref (a 3), .ref (a 4), .ref (a 5), .ref (a 6), .long 0, .long 0, .int nw, .int 0, .int 0, .int 0, .int 0]))] U.heap ∧ va_K (dC, dI) vwCl [] U ∧ va_D (fun _ => True) [(h0, .inr (9, [.ref (a 0), .ref (a 1), .ref (a 2), .ref (a 3), .ref (a 4), .ref (a 5), .ref (a 6), .long 0, .long 0, .int nw, .int 0, .int 0, .int 0, .int 0]))] ∧ pw_N U)) (va_Qv (fun (_ : Unit) => True) (fun (_ : Unit) (t : State) => va_P (dC, dI) vwCl [(h0, .inr (9, [.ref (a 0), .ref (a 1), .ref (a 2), .ref (a 3), .ref (a 4), .ref (a 5), .ref (a 6), .long 0, .long 0, .int nw, .int 0, .int 0, .int 0, .int 0]))] t.heap ∧ va_D (va_A [(h0, .inr (9, [.ref (a 0), .ref (a 1), .ref (a 2), .ref (a 3), .ref (a 4), .ref (a 5), .ref (a 6), .long 0, .long 0, .int nw, .int 0, .int 0, .int 0, .int 0]))] sz) [(h0, .inr (9, [.ref (a 0), .ref (a 1), .ref (a 2), .ref (a 3), .ref (a 4), .ref (a 5), .ref (a 6), .long 0, .long 0, .int nw, .int 0, .int 0, .int 0, .int 0]))]) (va_A [(h0, .inr (9, [.ref (a 0), .ref (a 1), .ref (a 2), .ref (a 3), .ref (a 4), .ref (a 5), .ref (a 6), .long 0, .long 0, .int nw, .int 0, .int 0, .int 0, .int 0]))] sz)) 0 0 (va_A [(h0, .inr (9, [.ref (a 0), .ref (a 1), .ref (a 2), .ref (a 3), .ref (a 4), .ref (a 5), .ref (a 6), .long 0, .long 0, .int nw, .int 0, .int 0, .int 0, .int 0]))] sz) := by
  refine Met.ofW (cc := cX8_keepRing) (maxL := 2) (ret := none) (by decide) rfl ?_
  intro p e s m args below meth c s₁ B hml hv
  obtain ⟨rfl, hsz, hP, hK, hD0, hN⟩ := hv
  have hx := B.exec
  have hb := B.bytes
  have hr := B.returns
  have hts := atoms_spec (ws := wq_keepRing) B.pre
  have hown : s.vm.findClass RX8 = some m.cls := findClass_of_methodNamed B.named
  have hlocks := B.notSynchronized
  subst hsz
  have hD := hD0.self (sz := s.heap.size)
  generalize hAe : va_A [(h0, .inr (9, [.ref (a 0), .ref (a 1), .ref (a 2), .ref (a 3), .ref (a 4), .ref (a 5), .ref (a 6), .long 0, .long 0, .int nw, .int 0, .int 0, .int 0, .int 0]))] s.heap.size = A at hD ⊢
  have hA : ∀ q : Nat, s.heap.size ≤ q → A q := fun q h => by rw [← hAe]; exact Or.inr h
  have hS : va_S A s.heap s.heap [] := va_S.rf
  have hP : va_P (dC, dI) vwCl [(h0, .inr (9, [.ref (a 0), .ref (a 1), .ref (a 2), .ref (a 3), .ref (a 4), .ref (a 5), .ref (a 6), .long 0, .long 0, .int nw, .int 0, .int 0, .int 0, .int 0]))] s.heap := hP
  have hl := lv_entry ([.ref h0, .int (-1)]) (n := 2) (Nat.le_of_ble_eq_true rfl)
  rw [lg_entry_eq]
  generalize (lg_sl ([.ref h0, .int (-1)]) ++ List.replicate (2 - (lg_sl ([.ref h0, .int (-1)])).length) Slot.unset).toArray = ls at hl ⊢
  have hl : lv_has ls 2 [(0, .ref h0), (1, .int (-1))] := hl
  refine lv_iload_n hx hb dX8_keepRing_0 rfl (lv_at hl 1 rfl) ?_
  refine lv_bipush (v := (-5)) hx hb dX8_keepRing_1 (by decide) ?_
  refine lv_icmp_ne (tgt := 17) hx hb dX8_keepRing_3 (by decide) (fun _ => ?_) (fun c9 => absurd c9 (by decide))
  have hP9 := hP.sub (ws' := [(h0, .inr (9, [.ref (a 0), .ref (a 1), .ref (a 2), .ref (a 3), .ref (a 4), .ref (a 5), .ref (a 6), .long 0, .long 0, .int nw, .int 0, .int 0, .int 0, .int 0]))]) [0] rfl
  have hD9 := hD.sub (ws' := [(h0, .inr (9, [.ref (a 0), .ref (a 1), .ref (a 2), .ref (a 3), .ref (a 4), .ref (a 5), .ref (a 6), .long 0, .long 0, .int nw, .int 0, .int 0, .int 0, .int 0]))]) [0] (by decide) rfl
  exact W.vret hx hb hr (fun t ht hW => ⟨⟨(), rfl, trivial, by rw [ht]; exact hP9, hD9⟩, hS.F ht⟩) hS.2.2 dX8_keepRing_17
def wq_draftOrder : List Cond := [.code yX8_draftOrder cX8_draftOrder 3 (some .int), .methodLink RX8 57 yX8_within, .static yX8_within, .initialized RX8, .methodLink RX8 82 yX8_exists, .instanceMethod yX8_exists, .selects RX8 yX8_exists yX8_exists] ++ (wq_within ++ (wq_exists))
set_option maxRecDepth 20000 in
theorem wi_draftOrder : ∀ w ∈ wq_draftOrder, w ∈ lw_tbl := List.forall_mem_append.mpr ⟨(by decide +kernel), List.forall_mem_append.mpr ⟨wi_within, wi_exists⟩⟩
set_option maxRecDepth 20000 in
theorem wg_draftOrder : GoodIn wq_draftOrder wq_draftOrder := goodIn_sub (fun _ h => h) (by decide +kernel)
set_option maxRecDepth 20000 in
theorem wc_draftOrder_within_57 : GoodIn wq_draftOrder (va_wsS RX8 57 yX8_within wq_within) := goodIn_app (goodIn_of _ (by decide +kernel)) (fun w h => ⟨List.mem_append_right _ (List.mem_append_left _ (h)), (wg_within w h).2⟩)
set_option maxRecDepth 20000 in
theorem wc_draftOrder_exists_82 : GoodIn wq_draftOrder (wsV RX8 82 RX8 yX8_exists wq_exists) := goodIn_app (goodIn_of _ (by decide +kernel)) (fun w h => ⟨List.mem_append_right _ (List.mem_append_right _ (h)), (wg_exists w h).2⟩)
set_option maxHeartbeats 4000000 in
set_option maxRecDepth 100000 in
theorem c_draftOrder (l : Launch) (dC : Nat → ClassId) (dI : Nat → Nat → Nat) (h0 : Nat) (a : Nat → Nat) (z : Nat) (nw : Int32) (p0 : Int32) (p1 : Int32) (sz : Nat) : Met l yX8_draftOrder wq_draftOrder ({ frames := 2, cells := 0, slots := 0, locals := 43 }) (va_Pc [.ref h0, .int p0, .int p1] (fun U => U.heap.size = sz ∧ va_P (dC, dI) vwCl [(h0, .inr (9, [.ref (a 0), .ref (a 1), .ref (a 2), .ref (a 3), .ref (a 4), .ref (a 5), .ref (a 6), .long 0, .long 0, .int nw, .int 0, .int 0, .int 0, .int 0])), (a 0, .inr (0, [.int 0, .ref z, .int 0]))] U.heap ∧ va_K (dC, dI) vwCl [] U ∧ va_D (fun _ => True) [(h0, .inr (9, [.ref (a 0), .ref (a 1), .ref (a 2), .ref (a 3), .ref (a 4), .ref (a 5), .ref (a 6), .long 0, .long 0, .int nw, .int 0, .int 0, .int 0, .int 0])), (a 0, .inr (0, [.int 0, .ref z, .int 0]))] ∧ pw_N U)) (va_Qi (fun (r : Int32) (_ : Unit) => r = (-1)) (fun (_ : Unit) (t : State) => va_P (dC, dI) vwCl [(h0, .inr (9, [.ref (a 0), .ref (a 1), .ref (a 2), .ref (a 3), .ref (a 4), .ref (a 5), .ref (a 6), .long 0, .long 0, .int nw, .int 0, .int 0, .int 0, .int 0])), (a 0, .inr (0, [.int 0, .ref z, .int 0]))] t.heap ∧ va_D (va_A [(h0, .inr (9, [.ref (a 0), .ref (a 1), .ref (a 2), .ref (a 3), .ref (a 4), .ref (a 5), .ref (a 6), .long 0, .long 0, .int nw, .int 0, .int 0, .int 0, .int 0])), (a 0, .inr (0, [.int 0, .ref z, .int 0]))] sz) [(h0, .inr (9, [.ref (a 0), .ref (a 1), .ref (a 2), .ref (a 3), .ref (a 4), .ref (a 5), .ref (a 6), .long 0, .long 0, .int nw, .int 0, .int 0, .int 0, .int 0])), (a 0, .inr (0, [.int 0, .ref z, .int 0]))]) (va_A [(h0, .inr (9, [.ref (a 0), .ref (a 1), .ref (a 2), .ref (a 3), .ref (a 4), .ref (a 5), .ref (a 6), .long 0, .long 0, .int nw, .int 0, .int 0, .int 0, .int 0])), (a 0, .inr (0, [.int 0, .ref z, .int 0]))] sz)) 0 0 (va_A [(h0, .inr (9, [.ref (a 0), .ref (a 1), .ref (a 2), .ref (a 3), .ref (a 4), .ref (a 5), .ref (a 6), .long 0, .long 0, .int nw, .int 0, .int 0, .int 0, .int 0])), (a 0, .inr (0, [.int 0, .ref z, .int 0]))] sz) := by
  refine Met.ofW (cc := cX8_draftOrder) (maxL := 3) (ret := (some .int)) (by decide) rfl ?_
  intro p e s m args below meth c s₁ B hml hv
  obtain ⟨rfl, hsz, hP, hK, hD0, hN⟩ := hv
  have hx := B.exec
  have hb := B.bytes
  have hr := B.returns
  have hts := atoms_spec (ws := wq_draftOrder) B.pre
  have hown : s.vm.findClass RX8 = some m.cls := findClass_of_methodNamed B.named
  have hlocks := B.notSynchronized
  subst hsz
  have hD := hD0.self (sz := s.heap.size)
  generalize hAe : va_A [(h0, .inr (9, [.ref (a 0), .ref (a 1), .ref (a 2), .ref (a 3), .ref (a 4), .ref (a 5), .ref (a 6), .long 0, .long 0, .int nw, .int 0, .int 0, .int 0, .int 0])), (a 0, .inr (0, [.int 0, .ref z, .int 0]))] s.heap.size = A at hD ⊢
  have hA : ∀ q : Nat, s.heap.size ≤ q → A q := fun q h => by rw [← hAe]; exact Or.inr h
  have hS : va_S A s.heap s.heap [] := va_S.rf
  have hP : va_P (dC, dI) vwCl [(h0, .inr (9, [.ref (a 0), .ref (a 1), .ref (a 2), .ref (a 3), .ref (a 4), .ref (a 5), .ref (a 6), .long 0, .long 0, .int nw, .int 0, .int 0, .int 0, .int 0])), (a 0, .inr (0, [.int 0, .ref z, .int 0]))] s.heap := hP
  have hl := lv_entry ([.ref h0, .int p0, .int p1]) (n := 3) (Nat.le_of_ble_eq_true rfl)
  rw [lg_entry_eq]
  generalize (lg_sl ([.ref h0, .int p0, .int p1]) ++ List.replicate (3 - (lg_sl ([.ref h0, .int p0, .int p1])).length) Slot.unset).toArray = ls at hl ⊢
  have hl : lv_has ls 3 [(0, .ref h0), (1, .int p0), (2, .int p1)] := hl
  refine lv_iload_n hx hb dX8_draftOrder_0 rfl (lv_at hl 1 rfl) ?_
  refine lv_iconst (v := 0) hx hb dX8_draftOrder_1 (by decide) ?_
  refine lv_iconst (v := 2) hx hb dX8_draftOrder_2 (by decide) ?_
  have hPc := hP.sub (ws' := []) [] rfl
  have hDc := hD.sub (ws' := []) [] (by decide) rfl
  have hKc := hK.sub (tys' := []) [] rfl
  have hFc := va_free (wc := []) hD hS hA [] rfl
  refine va_calli (va_runS (As := [.int p0, .int 0, .int 2]) (rest := []) ⟨hx, hb, hml, hown, hts⟩ (c_within l dC dI p0 0 2 s.heap.size) (va_cwS 3 hts wc_draftOrder_within_57 rfl rfl rfl (by decide +kernel) ⟨Nat.le_of_ble_eq_true rfl, Nat.le_of_ble_eq_true rfl⟩) ⟨fun a U g mk q => by obtain ⟨q0, q1, qP, qK, qD, qN⟩ := q; exact ⟨q0, q1, qP, va_K.moved (u := U) (U := U.calling g mk a) (Vm.Alike.refl U.vm) qK, qD, pw_N.same (u := U) (U := U.calling g mk a) rfl qN⟩, fun U hU hW => ⟨rfl, by rw [hU], by rw [hU]; exact hPc, va_K.moved hW.alike hKc, hDc.weaken (fun _ _ _ _ => trivial), pw_N.warm hW hN⟩⟩ rfl rfl hl.1 rfl (lv_room (Nat.le_of_ble_eq_true rfl)) dX8_draftOrder_3 ⟨Nat.le_of_ble_eq_true rfl, Nat.le_of_ble_eq_true rfl⟩) hS (fun q _ h => hFc q h) hFc (fun r_1 u t H1 locs ht hvm hw hB hz1 hk1 hS => ?_)
  obtain ⟨hP1, hD1⟩ := hB
  rw [ht] at hP1
  obtain ⟨hP, hD⟩ := va_join (wr := [(h0, .inr (9, [.ref (a 0), .ref (a 1), .ref (a 2), .ref (a 3), .ref (a 4), .ref (a 5), .ref (a 6), .long 0, .long 0, .int nw, .int 0, .int 0, .int 0, .int 0])), (a 0, .inr (0, [.int 0, .ref z, .int 0]))]) (w1 := []) hP hD [] [0, 1] rfl rfl (by decide) (by decide) hk1 hFc hP1 hD1
  generalize H1 = H at hP hS ⊢
  replace hP : va_P (dC, dI) vwCl [(h0, .inr (9, [.ref (a 0), .ref (a 1), .ref (a 2), .ref (a 3), .ref (a 4), .ref (a 5), .ref (a 6), .long 0, .long 0, .int nw, .int 0, .int 0, .int 0, .int 0])), (a 0, .inr (0, [.int 0, .ref z, .int 0]))] H := hP
  replace hD : va_D A [(h0, .inr (9, [.ref (a 0), .ref (a 1), .ref (a 2), .ref (a 3), .ref (a 4), .ref (a 5), .ref (a 6), .long 0, .long 0, .int nw, .int 0, .int 0, .int 0, .int 0])), (a 0, .inr (0, [.int 0, .ref z, .int 0]))] := hD
  try dsimp only at hw
  rcases Classical.em (0 ≤ p0 ∧ p0 ≤ 2) with h_2 | h_2
  · obtain rfl : r_1 = 1 := hw.trans (if_pos h_2)
    refine lv_if_eq (tgt := 17) hx hb dX8_draftOrder_6 (by decide) (fun c9 => absurd c9 (by decide)) (fun _ => ?_)
    refine lv_aload_n hx hb dX8_draftOrder_9 rfl (lv_at hl 0 rfl) ?_
    refine lv_iload_n hx hb dX8_draftOrder_10 rfl (lv_at hl 2 rfl) ?_
    have hPc := hP.sub (ws' := [(h0, .inr (9, [.ref (a 0), .ref (a 1), .ref (a 2), .ref (a 3), .ref (a 4), .ref (a 5), .ref (a 6), .long 0, .long 0, .int nw, .int 0, .int 0, .int 0, .int 0])), (a 0, .inr (0, [.int 0, .ref z, .int 0]))]) [0, 1] rfl
    have hDc := hD.sub (ws' := [(h0, .inr (9, [.ref (a 0), .ref (a 1), .ref (a 2), .ref (a 3), .ref (a 4), .ref (a 5), .ref (a 6), .long 0, .long 0, .int nw, .int 0, .int 0, .int 0, .int 0])), (a 0, .inr (0, [.int 0, .ref z, .int 0]))]) [0, 1] (by decide) rfl
    have hKc := hK.sub (tys' := []) [] rfl
    have hFc := va_free (wc := [(h0, .inr (9, [.ref (a 0), .ref (a 1), .ref (a 2), .ref (a 3), .ref (a 4), .ref (a 5), .ref (a 6), .long 0, .long 0, .int nw, .int 0, .int 0, .int 0, .int 0])), (a 0, .inr (0, [.int 0, .ref z, .int 0]))]) hD hS hA [0, 1] rfl
    refine va_calli (va_runV (As := [.int p1]) (rest := []) ⟨hx, hb, hml, hown, hts⟩ (c_exists l dC dI h0 a z nw p1 H.size) (cwV 1 hts wc_draftOrder_exists_82 rfl rfl rfl (by decide +kernel) ⟨Nat.le_of_ble_eq_true rfl, Nat.le_of_ble_eq_true rfl⟩) ⟨fun a U g mk q => by obtain ⟨q0, q1, qP, qK, qD, qN⟩ := q; exact ⟨q0, q1, qP, va_K.moved (u := U) (U := U.calling g mk a) (Vm.Alike.refl U.vm) qK, qD, pw_N.same (u := U) (U := U.calling g mk a) rfl qN⟩, va_recv hKc hPc (ci := 9) (q0 := 0) rfl rfl, fun U hU hW => ⟨rfl, by rw [hU], by rw [hU]; exact hPc, va_K.moved hW.alike hKc, hDc.weaken (fun _ _ _ _ => trivial), pw_N.warm hW hN⟩⟩ rfl rfl hl.1 rfl (lv_room (Nat.le_of_ble_eq_true rfl)) dX8_draftOrder_11 ⟨Nat.le_of_ble_eq_true rfl, Nat.le_of_ble_eq_true rfl⟩) hS (fun q _ h => hFc q h) hFc (fun r_3 u t H1 locs ht hvm hw hB hz1 hk1 hS => ?_)
    obtain ⟨hP1, hD1⟩ := hB
    rw [ht] at hP1
    obtain ⟨hP, hD⟩ := va_join (wr := []) (w1 := [(h0, .inr (9, [.ref (a 0), .ref (a 1), .ref (a 2), .ref (a 3), .ref (a 4), .ref (a 5), .ref (a 6), .long 0, .long 0, .int nw, .int 0, .int 0, .int 0, .int 0])), (a 0, .inr (0, [.int 0, .ref z, .int 0]))]) hP hD [0, 1] [] rfl rfl (by decide) (by decide) hk1 hFc hP1 hD1
    generalize H1 = H at hP hS ⊢
    replace hP : va_P (dC, dI) vwCl [(h0, .inr (9, [.ref (a 0), .ref (a 1), .ref (a 2), .ref (a 3), .ref (a 4), .ref (a 5), .ref (a 6), .long 0, .long 0, .int nw, .int 0, .int 0, .int 0, .int 0])), (a 0, .inr (0, [.int 0, .ref z, .int 0]))] H := hP
    replace hD : va_D A [(h0, .inr (9, [.ref (a 0), .ref (a 1), .ref (a 2), .ref (a 3), .ref (a 4), .ref (a 5), .ref (a 6), .long 0, .long 0, .int nw, .int 0, .int 0, .int 0, .int 0])), (a 0, .inr (0, [.int 0, .ref z, .int 0]))] := hD
    try dsimp only at hw
    subst hw
    refine lv_if_ne (tgt := 19) hx hb dX8_draftOrder_14 (by decide) (fun c9 => absurd (by decide) c9) (fun _ => ?_)
    refine lv_iconst (v := (-1)) hx hb dX8_draftOrder_17 (by decide) ?_
    have hP9 := hP.sub (ws' := [(h0, .inr (9, [.ref (a 0), .ref (a 1), .ref (a 2), .ref (a 3), .ref (a 4), .ref (a 5), .ref (a 6), .long 0, .long 0, .int nw, .int 0, .int 0, .int 0, .int 0])), (a 0, .inr (0, [.int 0, .ref z, .int 0]))]) [0, 1] rfl
    have hD9 := hD.sub (ws' := [(h0, .inr (9, [.ref (a 0), .ref (a 1), .ref (a 2), .ref (a 3), .ref (a 4), .ref (a 5), .ref (a 6), .long 0, .long 0, .int nw, .int 0, .int 0, .int 0, .int 0])), (a 0, .inr (0, [.int 0, .ref z, .int 0]))]) [0, 1] (by decide) rfl
    exact W.iret (v := (-1)) hx hb hr (fun t ht hW => ⟨⟨(-1), (), rfl, rfl, by rw [ht]; exact hP9, hD9⟩, hS.F ht⟩) hS.2.2 dX8_draftOrder_18
  · obtain rfl : r_1 = 0 := hw.trans (if_neg h_2)
    refine lv_if_eq (tgt := 17) hx hb dX8_draftOrder_6 (by decide) (fun _ => ?_) (fun c9 => absurd (by decide) c9)
    refine lv_iconst (v := (-1)) hx hb dX8_draftOrder_17 (by decide) ?_
    have hP9 := hP.sub (ws' := [(h0, .inr (9, [.ref (a 0), .ref (a 1), .ref (a 2), .ref (a 3), .ref (a 4), .ref (a 5), .ref (a 6), .long 0, .long 0, .int nw, .int 0, .int 0, .int 0, .int 0])), (a 0, .inr (0, [.int 0, .ref z, .int 0]))]) [0, 1] rfl
    have hD9 := hD.sub (ws' := [(h0, .inr (9, [.ref (a 0), .ref (a 1), .ref (a 2), .ref (a 3), .ref (a 4), .ref (a 5), .ref (a 6), .long 0, .long 0, .int nw, .int 0, .int 0, .int 0, .int 0])), (a 0, .inr (0, [.int 0, .ref z, .int 0]))]) [0, 1] (by decide) rfl
    exact W.iret (v := (-1)) hx hb hr (fun t ht hW => ⟨⟨(-1), (), rfl, rfl, by rw [ht]; exact hP9, hD9⟩, hS.F ht⟩) hS.2.2 dX8_draftOrder_18
def wq_t_order : List Cond := [.code yX8_order cX8_order 4 (some .int), .methodLink RX8 128 yX8_draftOrder, .instanceMethod yX8_draftOrder, .selects RX8 yX8_draftOrder yX8_draftOrder, .initialized RX8, .methodLink RX8 132 yX8_keepRing, .instanceMethod yX8_keepRing, .selects RX8 yX8_keepRing yX8_keepRing] ++ (wq_draftOrder ++ (wq_keepRing))
set_option maxRecDepth 20000 in
theorem wi_t_order : ∀ w ∈ wq_t_order, w ∈ lw_tbl := List.forall_mem_append.mpr ⟨(by decide +kernel), List.forall_mem_append.mpr ⟨wi_draftOrder, wi_keepRing⟩⟩
set_option maxRecDepth 20000 in
theorem wg_t_order : GoodIn wq_t_order wq_t_order := goodIn_sub (fun _ h => h) (by decide +kernel)
set_option maxRecDepth 20000 in
theorem wc_t_order_draftOrder_128 : GoodIn wq_t_order (wsV RX8 128 RX8 yX8_draftOrder wq_draftOrder) := goodIn_app (goodIn_of _ (by decide +kernel)) (fun w h => ⟨List.mem_append_right _ (List.mem_append_left _ (h)), (wg_draftOrder w h).2⟩)
set_option maxRecDepth 20000 in
theorem wc_t_order_keepRing_132 : GoodIn wq_t_order (wsV RX8 132 RX8 yX8_keepRing wq_keepRing) := goodIn_app (goodIn_of _ (by decide +kernel)) (fun w h => ⟨List.mem_append_right _ (List.mem_append_right _ (h)), (wg_keepRing w h).2⟩)
set_option maxHeartbeats 4000000 in
set_option maxRecDepth 100000 in
theorem c_t_order (l : Launch) (dC : Nat → ClassId) (dI : Nat → Nat → Nat) (h0 : Nat) (a : Nat → Nat) (z : Nat) (nw : Int32) (p0 : Int32) (p1 : Int32) (sz : Nat) : Met l yX8_order wq_t_order ({ frames := 3, cells := 0, slots := 0, locals := 65 }) (va_Pc [.ref h0, .int p0, .int p1] (fun U => U.heap.size = sz ∧ va_P (dC, dI) vwCl [(h0, .inr (9, [.ref (a 0), .ref (a 1), .ref (a 2), .ref (a 3), .ref (a 4), .ref (a 5), .ref (a 6), .long 0, .long 0, .int nw, .int 0, .int 0, .int 0, .int 0])), (a 0, .inr (0, [.int 0, .ref z, .int 0]))] U.heap ∧ va_K (dC, dI) vwCl [] U ∧ va_D (fun _ => True) [(h0, .inr (9, [.ref (a 0), .ref (a 1), .ref (a 2), .ref (a 3), .ref (a 4), .ref (a 5), .ref (a 6), .long 0, .long 0, .int nw, .int 0, .int 0, .int 0, .int 0])), (a 0, .inr (0, [.int 0, .ref z, .int 0]))] ∧ pw_N U)) (va_Qi (fun (r : Int32) (_ : Unit) => r = (-1)) (fun (_ : Unit) (t : State) => va_P (dC, dI) vwCl [(h0, .inr (9, [.ref (a 0), .ref (a 1), .ref (a 2), .ref (a 3), .ref (a 4), .ref (a 5), .ref (a 6), .long 0, .long 0, .int nw, .int 0, .int 0, .int 0, .int 0])), (a 0, .inr (0, [.int 0, .ref z, .int 0]))] t.heap ∧ va_D (va_A [(h0, .inr (9, [.ref (a 0), .ref (a 1), .ref (a 2), .ref (a 3), .ref (a 4), .ref (a 5), .ref (a 6), .long 0, .long 0, .int nw, .int 0, .int 0, .int 0, .int 0])), (a 0, .inr (0, [.int 0, .ref z, .int 0]))] sz) [(h0, .inr (9, [.ref (a 0), .ref (a 1), .ref (a 2), .ref (a 3), .ref (a 4), .ref (a 5), .ref (a 6), .long 0, .long 0, .int nw, .int 0, .int 0, .int 0, .int 0])), (a 0, .inr (0, [.int 0, .ref z, .int 0]))]) (va_A [(h0, .inr (9, [.ref (a 0), .ref (a 1), .ref (a 2), .ref (a 3), .ref (a 4), .ref (a 5), .ref (a 6), .long 0, .long 0, .int nw, .int 0, .int 0, .int 0, .int 0])), (a 0, .inr (0, [.int 0, .ref z, .int 0]))] sz)) 0 0 (va_A [(h0, .inr (9, [.ref (a 0), .ref (a 1), .ref (a 2), .ref (a 3), .ref (a 4), .ref (a 5), .ref (a 6), .long 0, .long 0, .int nw, .int 0, .int 0, .int 0, .int 0])), (a 0, .inr (0, [.int 0, .ref z, .int 0]))] sz) := by
  refine Met.ofW (cc := cX8_order) (maxL := 4) (ret := (some .int)) (by decide) rfl ?_
  intro p e s m args below meth c s₁ B hml hv
  obtain ⟨rfl, hsz, hP, hK, hD0, hN⟩ := hv
  have hx := B.exec
  have hb := B.bytes
  have hr := B.returns
  have hts := atoms_spec (ws := wq_t_order) B.pre
  have hown : s.vm.findClass RX8 = some m.cls := findClass_of_methodNamed B.named
  have hlocks := B.notSynchronized
  subst hsz
  have hD := hD0.self (sz := s.heap.size)
  generalize hAe : va_A [(h0, .inr (9, [.ref (a 0), .ref (a 1), .ref (a 2), .ref (a 3), .ref (a 4), .ref (a 5), .ref (a 6), .long 0, .long 0, .int nw, .int 0, .int 0, .int 0, .int 0])), (a 0, .inr (0, [.int 0, .ref z, .int 0]))] s.heap.size = A at hD ⊢
  have hA : ∀ q : Nat, s.heap.size ≤ q → A q := fun q h => by rw [← hAe]; exact Or.inr h
  have hS : va_S A s.heap s.heap [] := va_S.rf
  have hP : va_P (dC, dI) vwCl [(h0, .inr (9, [.ref (a 0), .ref (a 1), .ref (a 2), .ref (a 3), .ref (a 4), .ref (a 5), .ref (a 6), .long 0, .long 0, .int nw, .int 0, .int 0, .int 0, .int 0])), (a 0, .inr (0, [.int 0, .ref z, .int 0]))] s.heap := hP
  have hl := lv_entry ([.ref h0, .int p0, .int p1]) (n := 4) (Nat.le_of_ble_eq_true rfl)
  rw [lg_entry_eq]
  generalize (lg_sl ([.ref h0, .int p0, .int p1]) ++ List.replicate (4 - (lg_sl ([.ref h0, .int p0, .int p1])).length) Slot.unset).toArray = ls at hl ⊢
  have hl : lv_has ls 4 [(0, .ref h0), (1, .int p0), (2, .int p1)] := hl
  refine lv_aload_n hx hb dX8_order_0 rfl (lv_at hl 0 rfl) ?_
  refine lv_iload_n hx hb dX8_order_1 rfl (lv_at hl 1 rfl) ?_
  refine lv_iload_n hx hb dX8_order_2 rfl (lv_at hl 2 rfl) ?_
  have hPc := hP.sub (ws' := [(h0, .inr (9, [.ref (a 0), .ref (a 1), .ref (a 2), .ref (a 3), .ref (a 4), .ref (a 5), .ref (a 6), .long 0, .long 0, .int nw, .int 0, .int 0, .int 0, .int 0])), (a 0, .inr (0, [.int 0, .ref z, .int 0]))]) [0, 1] rfl
  have hDc := hD.sub (ws' := [(h0, .inr (9, [.ref (a 0), .ref (a 1), .ref (a 2), .ref (a 3), .ref (a 4), .ref (a 5), .ref (a 6), .long 0, .long 0, .int nw, .int 0, .int 0, .int 0, .int 0])), (a 0, .inr (0, [.int 0, .ref z, .int 0]))]) [0, 1] (by decide) rfl
  have hKc := hK.sub (tys' := []) [] rfl
  have hFc := va_free (wc := [(h0, .inr (9, [.ref (a 0), .ref (a 1), .ref (a 2), .ref (a 3), .ref (a 4), .ref (a 5), .ref (a 6), .long 0, .long 0, .int nw, .int 0, .int 0, .int 0, .int 0])), (a 0, .inr (0, [.int 0, .ref z, .int 0]))]) hD hS hA [0, 1] rfl
  refine va_calli (va_runV (As := [.int p0, .int p1]) (rest := []) ⟨hx, hb, hml, hown, hts⟩ (c_draftOrder l dC dI h0 a z nw p0 p1 s.heap.size) (cwV 2 hts wc_t_order_draftOrder_128 rfl rfl rfl (by decide +kernel) ⟨Nat.le_of_ble_eq_true rfl, Nat.le_of_ble_eq_true rfl⟩) ⟨fun a U g mk q => by obtain ⟨q0, q1, qP, qK, qD, qN⟩ := q; exact ⟨q0, q1, qP, va_K.moved (u := U) (U := U.calling g mk a) (Vm.Alike.refl U.vm) qK, qD, pw_N.same (u := U) (U := U.calling g mk a) rfl qN⟩, va_recv hKc hPc (ci := 9) (q0 := 0) rfl rfl, fun U hU hW => ⟨rfl, by rw [hU], by rw [hU]; exact hPc, va_K.moved hW.alike hKc, hDc.weaken (fun _ _ _ _ => trivial), pw_N.warm hW hN⟩⟩ rfl rfl hl.1 rfl (lv_room (Nat.le_of_ble_eq_true rfl)) dX8_order_3 ⟨Nat.le_of_ble_eq_true rfl, Nat.le_of_ble_eq_true rfl⟩) hS (fun q _ h => hFc q h) hFc (fun r_1 u t H1 locs ht hvm hw hB hz1 hk1 hS => ?_)
  obtain ⟨hP1, hD1⟩ := hB
  rw [ht] at hP1
  obtain ⟨hP, hD⟩ := va_join (wr := []) (w1 := [(h0, .inr (9, [.ref (a 0), .ref (a 1), .ref (a 2), .ref (a 3), .ref (a 4), .ref (a 5), .ref (a 6), .long 0, .long 0, .int nw, .int 0, .int 0, .int 0, .int 0])), (a 0, .inr (0, [.int 0, .ref z, .int 0]))]) hP hD [0, 1] [] rfl rfl (by decide) (by decide) hk1 hFc hP1 hD1
  generalize H1 = H at hP hS ⊢
  replace hP : va_P (dC, dI) vwCl [(h0, .inr (9, [.ref (a 0), .ref (a 1), .ref (a 2), .ref (a 3), .ref (a 4), .ref (a 5), .ref (a 6), .long 0, .long 0, .int nw, .int 0, .int 0, .int 0, .int 0])), (a 0, .inr (0, [.int 0, .ref z, .int 0]))] H := hP
  replace hD : va_D A [(h0, .inr (9, [.ref (a 0), .ref (a 1), .ref (a 2), .ref (a 3), .ref (a 4), .ref (a 5), .ref (a 6), .long 0, .long 0, .int nw, .int 0, .int 0, .int 0, .int 0])), (a 0, .inr (0, [.int 0, .ref z, .int 0]))] := hD
  try dsimp only at hw
  subst hw
  refine lv_istore_n (lv' := [(3, .int (-1)), (0, .ref h0), (1, .int p0), (2, .int p1)]) hx hb dX8_order_6 rfl hl (by decide) rfl (fun ls hl => ?_)
  refine lv_aload_n hx hb dX8_order_7 rfl (lv_at hl 1 rfl) ?_
  refine lv_iload_n hx hb dX8_order_8 rfl (lv_at hl 0 rfl) ?_
  have hPc := hP.sub (ws' := [(h0, .inr (9, [.ref (a 0), .ref (a 1), .ref (a 2), .ref (a 3), .ref (a 4), .ref (a 5), .ref (a 6), .long 0, .long 0, .int nw, .int 0, .int 0, .int 0, .int 0]))]) [0] rfl
  have hDc := hD.sub (ws' := [(h0, .inr (9, [.ref (a 0), .ref (a 1), .ref (a 2), .ref (a 3), .ref (a 4), .ref (a 5), .ref (a 6), .long 0, .long 0, .int nw, .int 0, .int 0, .int 0, .int 0]))]) [0] (by decide) rfl
  have hKc := hK.sub (tys' := []) [] rfl
  have hFc := va_free (wc := [(h0, .inr (9, [.ref (a 0), .ref (a 1), .ref (a 2), .ref (a 3), .ref (a 4), .ref (a 5), .ref (a 6), .long 0, .long 0, .int nw, .int 0, .int 0, .int 0, .int 0]))]) hD hS hA [0] rfl
  refine va_callv (va_runV (As := [.int (-1)]) (rest := []) ⟨hx, hb, hml, hown, hts⟩ (c_keepRing l dC dI h0 a nw H.size) (cwV 1 hts wc_t_order_keepRing_132 rfl rfl rfl (by decide +kernel) ⟨Nat.le_of_ble_eq_true rfl, Nat.le_of_ble_eq_true rfl⟩) ⟨fun a U g mk q => by obtain ⟨q0, q1, qP, qK, qD, qN⟩ := q; exact ⟨q0, q1, qP, va_K.moved (u := U) (U := U.calling g mk a) (Vm.Alike.refl U.vm) qK, qD, pw_N.same (u := U) (U := U.calling g mk a) rfl qN⟩, va_recv hKc hPc (ci := 9) (q0 := 0) rfl rfl, fun U hU hW => ⟨rfl, by rw [hU], by rw [hU]; exact hPc, va_K.moved hW.alike hKc, hDc.weaken (fun _ _ _ _ => trivial), pw_N.warm hW hN⟩⟩ rfl rfl hl.1 rfl (lv_room (Nat.le_of_ble_eq_true rfl)) dX8_order_9 ⟨Nat.le_of_ble_eq_true rfl, Nat.le_of_ble_eq_true rfl⟩) hS (fun q _ h => hFc q h) hFc (fun u t H1 locs ht hvm hw hB hz1 hk1 hS => ?_)
  obtain ⟨hP1, hD1⟩ := hB
  rw [ht] at hP1
  obtain ⟨hP, hD⟩ := va_join (wr := [(a 0, .inr (0, [.int 0, .ref z, .int 0]))]) (w1 := [(h0, .inr (9, [.ref (a 0), .ref (a 1), .ref (a 2), .ref (a 3), .ref (a 4), .ref (a 5), .ref (a 6), .long 0, .long 0, .int nw, .int 0, .int 0, .int 0, .int 0]))]) hP hD [0] [1] rfl rfl (by decide) (by decide) hk1 hFc hP1 hD1
  generalize H1 = H at hP hS ⊢
  replace hP : va_P (dC, dI) vwCl [(a 0, .inr (0, [.int 0, .ref z, .int 0])), (h0, .inr (9, [.ref (a 0), .ref (a 1), .ref (a 2), .ref (a 3), .ref (a 4), .ref (a 5), .ref (a 6), .long 0, .long 0, .int nw, .int 0, .int 0, .int 0, .int 0]))] H := hP
  replace hD : va_D A [(a 0, .inr (0, [.int 0, .ref z, .int 0])), (h0, .inr (9, [.ref (a 0), .ref (a 1), .ref (a 2), .ref (a 3), .ref (a 4), .ref (a 5), .ref (a 6), .long 0, .long 0, .int nw, .int 0, .int 0, .int 0, .int 0]))] := hD
  try dsimp only at hw
  refine lv_iload_n hx hb dX8_order_12 rfl (lv_at hl 0 rfl) ?_
  refine lv_if_lt (tgt := 20) hx hb dX8_order_13 (by decide) (fun _ => ?_) (fun c9 => absurd (by decide) c9)
  refine lv_iload_n hx hb dX8_order_20 rfl (lv_at hl 0 rfl) ?_
  have hP9 := hP.sub (ws' := [(h0, .inr (9, [.ref (a 0), .ref (a 1), .ref (a 2), .ref (a 3), .ref (a 4), .ref (a 5), .ref (a 6), .long 0, .long 0, .int nw, .int 0, .int 0, .int 0, .int 0])), (a 0, .inr (0, [.int 0, .ref z, .int 0]))]) [1, 0] rfl
  have hD9 := hD.sub (ws' := [(h0, .inr (9, [.ref (a 0), .ref (a 1), .ref (a 2), .ref (a 3), .ref (a 4), .ref (a 5), .ref (a 6), .long 0, .long 0, .int nw, .int 0, .int 0, .int 0, .int 0])), (a 0, .inr (0, [.int 0, .ref z, .int 0]))]) [1, 0] (by decide) rfl
  exact W.iret (v := (-1)) hx hb hr (fun t ht hW => ⟨⟨(-1), (), rfl, rfl, by rw [ht]; exact hP9, hD9⟩, hS.F ht⟩) hS.2.2 dX8_order_21
def wq_t_plan : List Cond := [.code yX8_plan cX8_plan 4 (some .int), .methodLink RX8 128 yX8_draftOrder, .instanceMethod yX8_draftOrder, .selects RX8 yX8_draftOrder yX8_draftOrder, .initialized RX8, .methodLink RX8 132 yX8_keepRing, .instanceMethod yX8_keepRing, .selects RX8 yX8_keepRing yX8_keepRing] ++ (wq_draftOrder ++ (wq_keepRing))
set_option maxRecDepth 20000 in
theorem wi_t_plan : ∀ w ∈ wq_t_plan, w ∈ lw_tbl := List.forall_mem_append.mpr ⟨(by decide +kernel), List.forall_mem_append.mpr ⟨wi_draftOrder, wi_keepRing⟩⟩
set_option maxRecDepth 20000 in
theorem wg_t_plan : GoodIn wq_t_plan wq_t_plan := goodIn_sub (fun _ h => h) (by decide +kernel)
set_option maxRecDepth 20000 in
theorem wc_t_plan_draftOrder_128 : GoodIn wq_t_plan (wsV RX8 128 RX8 yX8_draftOrder wq_draftOrder) := goodIn_app (goodIn_of _ (by decide +kernel)) (fun w h => ⟨List.mem_append_right _ (List.mem_append_left _ (h)), (wg_draftOrder w h).2⟩)
set_option maxRecDepth 20000 in
theorem wc_t_plan_keepRing_132 : GoodIn wq_t_plan (wsV RX8 132 RX8 yX8_keepRing wq_keepRing) := goodIn_app (goodIn_of _ (by decide +kernel)) (fun w h => ⟨List.mem_append_right _ (List.mem_append_right _ (h)), (wg_keepRing w h).2⟩)
set_option maxHeartbeats 4000000 in
set_option maxRecDepth 100000 in
theorem c_t_plan (l : Launch) (dC : Nat → ClassId) (dI : Nat → Nat → Nat) (h0 : Nat) (a : Nat → Nat) (z : Nat) (nw : Int32) (p0 : Int32) (p1 : Int32) (sz : Nat) : Met l yX8_plan wq_t_plan ({ frames := 3, cells := 0, slots := 0, locals := 65 }) (va_Pc [.ref h0, .int p0, .int p1] (fun U => U.heap.size = sz ∧ va_P (dC, dI) vwCl [(h0, .inr (9, [.ref (a 0), .ref (a 1), .ref (a 2), .ref (a 3), .ref (a 4), .ref (a 5), .ref (a 6), .long 0, .long 0, .int nw, .int 0, .int 0, .int 0, .int 0])), (a 0, .inr (0, [.int 0, .ref z, .int 0]))] U.heap ∧ va_K (dC, dI) vwCl [] U ∧ va_D (fun _ => True) [(h0, .inr (9, [.ref (a 0), .ref (a 1), .ref (a 2), .ref (a 3), .ref (a 4), .ref (a 5), .ref (a 6), .long 0, .long 0, .int nw, .int 0, .int 0, .int 0, .int 0])), (a 0, .inr (0, [.int 0, .ref z, .int 0]))] ∧ pw_N U)) (va_Qi (fun (r : Int32) (_ : Unit) => r = (-1)) (fun (_ : Unit) (t : State) => va_P (dC, dI) vwCl [(h0, .inr (9, [.ref (a 0), .ref (a 1), .ref (a 2), .ref (a 3), .ref (a 4), .ref (a 5), .ref (a 6), .long 0, .long 0, .int nw, .int 0, .int 0, .int 0, .int 0])), (a 0, .inr (0, [.int 0, .ref z, .int 0]))] t.heap ∧ va_D (va_A [(h0, .inr (9, [.ref (a 0), .ref (a 1), .ref (a 2), .ref (a 3), .ref (a 4), .ref (a 5), .ref (a 6), .long 0, .long 0, .int nw, .int 0, .int 0, .int 0, .int 0])), (a 0, .inr (0, [.int 0, .ref z, .int 0]))] sz) [(h0, .inr (9, [.ref (a 0), .ref (a 1), .ref (a 2), .ref (a 3), .ref (a 4), .ref (a 5), .ref (a 6), .long 0, .long 0, .int nw, .int 0, .int 0, .int 0, .int 0])), (a 0, .inr (0, [.int 0, .ref z, .int 0]))]) (va_A [(h0, .inr (9, [.ref (a 0), .ref (a 1), .ref (a 2), .ref (a 3), .ref (a 4), .ref (a 5), .ref (a 6), .long 0, .long 0, .int nw, .int 0, .int 0, .int 0, .int 0])), (a 0, .inr (0, [.int 0, .ref z, .int 0]))] sz)) 0 0 (va_A [(h0, .inr (9, [.ref (a 0), .ref (a 1), .ref (a 2), .ref (a 3), .ref (a 4), .ref (a 5), .ref (a 6), .long 0, .long 0, .int nw, .int 0, .int 0, .int 0, .int 0])), (a 0, .inr (0, [.int 0, .ref z, .int 0]))] sz) := by
  refine Met.ofW (cc := cX8_plan) (maxL := 4) (ret := (some .int)) (by decide) rfl ?_
  intro p e s m args below meth c s₁ B hml hv
  obtain ⟨rfl, hsz, hP, hK, hD0, hN⟩ := hv
  have hx := B.exec
  have hb := B.bytes
  have hr := B.returns
  have hts := atoms_spec (ws := wq_t_plan) B.pre
  have hown : s.vm.findClass RX8 = some m.cls := findClass_of_methodNamed B.named
  have hlocks := B.notSynchronized
  subst hsz
  have hD := hD0.self (sz := s.heap.size)
  generalize hAe : va_A [(h0, .inr (9, [.ref (a 0), .ref (a 1), .ref (a 2), .ref (a 3), .ref (a 4), .ref (a 5), .ref (a 6), .long 0, .long 0, .int nw, .int 0, .int 0, .int 0, .int 0])), (a 0, .inr (0, [.int 0, .ref z, .int 0]))] s.heap.size = A at hD ⊢
  have hA : ∀ q : Nat, s.heap.size ≤ q → A q := fun q h => by rw [← hAe]; exact Or.inr h
  have hS : va_S A s.heap s.heap [] := va_S.rf
  have hP : va_P (dC, dI) vwCl [(h0, .inr (9, [.ref (a 0), .ref (a 1), .ref (a 2), .ref (a 3), .ref (a 4), .ref (a 5), .ref (a 6), .long 0, .long 0, .int nw, .int 0, .int 0, .int 0, .int 0])), (a 0, .inr (0, [.int 0, .ref z, .int 0]))] s.heap := hP
  have hl := lv_entry ([.ref h0, .int p0, .int p1]) (n := 4) (Nat.le_of_ble_eq_true rfl)
  rw [lg_entry_eq]
  generalize (lg_sl ([.ref h0, .int p0, .int p1]) ++ List.replicate (4 - (lg_sl ([.ref h0, .int p0, .int p1])).length) Slot.unset).toArray = ls at hl ⊢
  have hl : lv_has ls 4 [(0, .ref h0), (1, .int p0), (2, .int p1)] := hl
  refine lv_aload_n hx hb dX8_plan_0 rfl (lv_at hl 0 rfl) ?_
  refine lv_iload_n hx hb dX8_plan_1 rfl (lv_at hl 1 rfl) ?_
  refine lv_iload_n hx hb dX8_plan_2 rfl (lv_at hl 2 rfl) ?_
  have hPc := hP.sub (ws' := [(h0, .inr (9, [.ref (a 0), .ref (a 1), .ref (a 2), .ref (a 3), .ref (a 4), .ref (a 5), .ref (a 6), .long 0, .long 0, .int nw, .int 0, .int 0, .int 0, .int 0])), (a 0, .inr (0, [.int 0, .ref z, .int 0]))]) [0, 1] rfl
  have hDc := hD.sub (ws' := [(h0, .inr (9, [.ref (a 0), .ref (a 1), .ref (a 2), .ref (a 3), .ref (a 4), .ref (a 5), .ref (a 6), .long 0, .long 0, .int nw, .int 0, .int 0, .int 0, .int 0])), (a 0, .inr (0, [.int 0, .ref z, .int 0]))]) [0, 1] (by decide) rfl
  have hKc := hK.sub (tys' := []) [] rfl
  have hFc := va_free (wc := [(h0, .inr (9, [.ref (a 0), .ref (a 1), .ref (a 2), .ref (a 3), .ref (a 4), .ref (a 5), .ref (a 6), .long 0, .long 0, .int nw, .int 0, .int 0, .int 0, .int 0])), (a 0, .inr (0, [.int 0, .ref z, .int 0]))]) hD hS hA [0, 1] rfl
  refine va_calli (va_runV (As := [.int p0, .int p1]) (rest := []) ⟨hx, hb, hml, hown, hts⟩ (c_draftOrder l dC dI h0 a z nw p0 p1 s.heap.size) (cwV 2 hts wc_t_plan_draftOrder_128 rfl rfl rfl (by decide +kernel) ⟨Nat.le_of_ble_eq_true rfl, Nat.le_of_ble_eq_true rfl⟩) ⟨fun a U g mk q => by obtain ⟨q0, q1, qP, qK, qD, qN⟩ := q; exact ⟨q0, q1, qP, va_K.moved (u := U) (U := U.calling g mk a) (Vm.Alike.refl U.vm) qK, qD, pw_N.same (u := U) (U := U.calling g mk a) rfl qN⟩, va_recv hKc hPc (ci := 9) (q0 := 0) rfl rfl, fun U hU hW => ⟨rfl, by rw [hU], by rw [hU]; exact hPc, va_K.moved hW.alike hKc, hDc.weaken (fun _ _ _ _ => trivial), pw_N.warm hW hN⟩⟩ rfl rfl hl.1 rfl (lv_room (Nat.le_of_ble_eq_true rfl)) dX8_plan_3 ⟨Nat.le_of_ble_eq_true rfl, Nat.le_of_ble_eq_true rfl⟩) hS (fun q _ h => hFc q h) hFc (fun r_1 u t H1 locs ht hvm hw hB hz1 hk1 hS => ?_)
  obtain ⟨hP1, hD1⟩ := hB
  rw [ht] at hP1
  obtain ⟨hP, hD⟩ := va_join (wr := []) (w1 := [(h0, .inr (9, [.ref (a 0), .ref (a 1), .ref (a 2), .ref (a 3), .ref (a 4), .ref (a 5), .ref (a 6), .long 0, .long 0, .int nw, .int 0, .int 0, .int 0, .int 0])), (a 0, .inr (0, [.int 0, .ref z, .int 0]))]) hP hD [0, 1] [] rfl rfl (by decide) (by decide) hk1 hFc hP1 hD1
  generalize H1 = H at hP hS ⊢
  replace hP : va_P (dC, dI) vwCl [(h0, .inr (9, [.ref (a 0), .ref (a 1), .ref (a 2), .ref (a 3), .ref (a 4), .ref (a 5), .ref (a 6), .long 0, .long 0, .int nw, .int 0, .int 0, .int 0, .int 0])), (a 0, .inr (0, [.int 0, .ref z, .int 0]))] H := hP
  replace hD : va_D A [(h0, .inr (9, [.ref (a 0), .ref (a 1), .ref (a 2), .ref (a 3), .ref (a 4), .ref (a 5), .ref (a 6), .long 0, .long 0, .int nw, .int 0, .int 0, .int 0, .int 0])), (a 0, .inr (0, [.int 0, .ref z, .int 0]))] := hD
  try dsimp only at hw
  subst hw
  refine lv_istore_n (lv' := [(3, .int (-1)), (0, .ref h0), (1, .int p0), (2, .int p1)]) hx hb dX8_plan_6 rfl hl (by decide) rfl (fun ls hl => ?_)
  refine lv_aload_n hx hb dX8_plan_7 rfl (lv_at hl 1 rfl) ?_
  refine lv_iload_n hx hb dX8_plan_8 rfl (lv_at hl 0 rfl) ?_
  have hPc := hP.sub (ws' := [(h0, .inr (9, [.ref (a 0), .ref (a 1), .ref (a 2), .ref (a 3), .ref (a 4), .ref (a 5), .ref (a 6), .long 0, .long 0, .int nw, .int 0, .int 0, .int 0, .int 0]))]) [0] rfl
  have hDc := hD.sub (ws' := [(h0, .inr (9, [.ref (a 0), .ref (a 1), .ref (a 2), .ref (a 3), .ref (a 4), .ref (a 5), .ref (a 6), .long 0, .long 0, .int nw, .int 0, .int 0, .int 0, .int 0]))]) [0] (by decide) rfl
  have hKc := hK.sub (tys' := []) [] rfl
  have hFc := va_free (wc := [(h0, .inr (9, [.ref (a 0), .ref (a 1), .ref (a 2), .ref (a 3), .ref (a 4), .ref (a 5), .ref (a 6), .long 0, .long 0, .int nw, .int 0, .int 0, .int 0, .int 0]))]) hD hS hA [0] rfl
  refine va_callv (va_runV (As := [.int (-1)]) (rest := []) ⟨hx, hb, hml, hown, hts⟩ (c_keepRing l dC dI h0 a nw H.size) (cwV 1 hts wc_t_plan_keepRing_132 rfl rfl rfl (by decide +kernel) ⟨Nat.le_of_ble_eq_true rfl, Nat.le_of_ble_eq_true rfl⟩) ⟨fun a U g mk q => by obtain ⟨q0, q1, qP, qK, qD, qN⟩ := q; exact ⟨q0, q1, qP, va_K.moved (u := U) (U := U.calling g mk a) (Vm.Alike.refl U.vm) qK, qD, pw_N.same (u := U) (U := U.calling g mk a) rfl qN⟩, va_recv hKc hPc (ci := 9) (q0 := 0) rfl rfl, fun U hU hW => ⟨rfl, by rw [hU], by rw [hU]; exact hPc, va_K.moved hW.alike hKc, hDc.weaken (fun _ _ _ _ => trivial), pw_N.warm hW hN⟩⟩ rfl rfl hl.1 rfl (lv_room (Nat.le_of_ble_eq_true rfl)) dX8_plan_9 ⟨Nat.le_of_ble_eq_true rfl, Nat.le_of_ble_eq_true rfl⟩) hS (fun q _ h => hFc q h) hFc (fun u t H1 locs ht hvm hw hB hz1 hk1 hS => ?_)
  obtain ⟨hP1, hD1⟩ := hB
  rw [ht] at hP1
  obtain ⟨hP, hD⟩ := va_join (wr := [(a 0, .inr (0, [.int 0, .ref z, .int 0]))]) (w1 := [(h0, .inr (9, [.ref (a 0), .ref (a 1), .ref (a 2), .ref (a 3), .ref (a 4), .ref (a 5), .ref (a 6), .long 0, .long 0, .int nw, .int 0, .int 0, .int 0, .int 0]))]) hP hD [0] [1] rfl rfl (by decide) (by decide) hk1 hFc hP1 hD1
  generalize H1 = H at hP hS ⊢
  replace hP : va_P (dC, dI) vwCl [(a 0, .inr (0, [.int 0, .ref z, .int 0])), (h0, .inr (9, [.ref (a 0), .ref (a 1), .ref (a 2), .ref (a 3), .ref (a 4), .ref (a 5), .ref (a 6), .long 0, .long 0, .int nw, .int 0, .int 0, .int 0, .int 0]))] H := hP
  replace hD : va_D A [(a 0, .inr (0, [.int 0, .ref z, .int 0])), (h0, .inr (9, [.ref (a 0), .ref (a 1), .ref (a 2), .ref (a 3), .ref (a 4), .ref (a 5), .ref (a 6), .long 0, .long 0, .int nw, .int 0, .int 0, .int 0, .int 0]))] := hD
  try dsimp only at hw
  refine lv_iload_n hx hb dX8_plan_12 rfl (lv_at hl 0 rfl) ?_
  refine lv_if_lt (tgt := 20) hx hb dX8_plan_13 (by decide) (fun _ => ?_) (fun c9 => absurd (by decide) c9)
  refine lv_iload_n hx hb dX8_plan_20 rfl (lv_at hl 0 rfl) ?_
  have hP9 := hP.sub (ws' := [(h0, .inr (9, [.ref (a 0), .ref (a 1), .ref (a 2), .ref (a 3), .ref (a 4), .ref (a 5), .ref (a 6), .long 0, .long 0, .int nw, .int 0, .int 0, .int 0, .int 0])), (a 0, .inr (0, [.int 0, .ref z, .int 0]))]) [1, 0] rfl
  have hD9 := hD.sub (ws' := [(h0, .inr (9, [.ref (a 0), .ref (a 1), .ref (a 2), .ref (a 3), .ref (a 4), .ref (a 5), .ref (a 6), .long 0, .long 0, .int nw, .int 0, .int 0, .int 0, .int 0])), (a 0, .inr (0, [.int 0, .ref z, .int 0]))]) [1, 0] (by decide) rfl
  exact W.iret (v := (-1)) hx hb hr (fun t ht hW => ⟨⟨(-1), (), rfl, rfl, by rw [ht]; exact hP9, hD9⟩, hS.F ht⟩) hS.2.2 dX8_plan_21
def wq_planTell : List Cond := [.code yX4_tell cX4_tell 4 (some .int), .fieldLink RX4 25 "ServiceTree$Plan" "size" "I", .initialized RX8, .static yX8_within] ++ (wsX40 ++ (wq_within))
theorem in_planTell_X4 : ∀ w ∈ wsX40, w ∈ wq_planTell := fun _ h => List.mem_append_right _ (List.mem_append_left _ (h))
set_option maxRecDepth 20000 in
theorem wi_planTell : ∀ w ∈ wq_planTell, w ∈ lw_tbl := List.forall_mem_append.mpr ⟨(by decide +kernel), List.forall_mem_append.mpr ⟨inKX4, wi_within⟩⟩
set_option maxRecDepth 20000 in
theorem wg_planTell : GoodIn wq_planTell wq_planTell := goodIn_sub (fun _ h => h) (by decide +kernel)
theorem wc_planTell_within_50 : GoodIn wq_planTell wq_within := (fun w h => ⟨List.mem_append_right _ (List.mem_append_right _ (h)), (wg_within w h).2⟩)
set_option maxHeartbeats 4000000 in
set_option maxRecDepth 100000 in
theorem c_planTell (l : Launch) (dC : Nat → ClassId) (dI : Nat → Nat → Nat) (h0 : Nat) (b0 : Nat) (b1 : Nat) (b2 : Nat) (p0 : Int32) (p1 : Int32) (sz : Nat) : Met l yX4_tell wq_planTell ({ frames := 1, cells := 0, slots := 0, locals := 22 }) (va_Pc [.ref h0, .int p0, .int p1] (fun U => U.heap.size = sz ∧ va_P (dC, dI) vwCl [(h0, .inr (5, [.ref b0, .ref b1, .ref b2, .long 0, .int 0, .int 0, .int 0]))] U.heap ∧ va_K (dC, dI) vwCl [] U ∧ va_D (fun _ => True) [(h0, .inr (5, [.ref b0, .ref b1, .ref b2, .long 0, .int 0, .int 0, .int 0]))] ∧ pw_N U)) (va_Qi (fun (r : Int32) (_ : Unit) => r = (-1)) (fun (_ : Unit) (t : State) => va_P (dC, dI) vwCl [(h0, .inr (5, [.ref b0, .ref b1, .ref b2, .long 0, .int 0, .int 0, .int 0]))] t.heap ∧ va_D (va_A [(h0, .inr (5, [.ref b0, .ref b1, .ref b2, .long 0, .int 0, .int 0, .int 0]))] sz) [(h0, .inr (5, [.ref b0, .ref b1, .ref b2, .long 0, .int 0, .int 0, .int 0]))]) (va_A [(h0, .inr (5, [.ref b0, .ref b1, .ref b2, .long 0, .int 0, .int 0, .int 0]))] sz)) 0 0 (va_A [(h0, .inr (5, [.ref b0, .ref b1, .ref b2, .long 0, .int 0, .int 0, .int 0]))] sz) := by
  refine Met.ofW (cc := cX4_tell) (maxL := 4) (ret := (some .int)) (by decide) rfl ?_
  intro p e s m args below meth c s₁ B hml hv
  obtain ⟨rfl, hsz, hP, hK, hD0, hN⟩ := hv
  have hx := B.exec
  have hb := B.bytes
  have hr := B.returns
  have hts := atoms_spec (ws := wq_planTell) B.pre
  have hown : s.vm.findClass RX4 = some m.cls := findClass_of_methodNamed B.named
  have hlocks := B.notSynchronized
  subst hsz
  have hD := hD0.self (sz := s.heap.size)
  generalize hAe : va_A [(h0, .inr (5, [.ref b0, .ref b1, .ref b2, .long 0, .int 0, .int 0, .int 0]))] s.heap.size = A at hD ⊢
  have hA : ∀ q : Nat, s.heap.size ≤ q → A q := fun q h => by rw [← hAe]; exact Or.inr h
  have hS : va_S A s.heap s.heap [] := va_S.rf
  have hP : va_P (dC, dI) vwCl [(h0, .inr (5, [.ref b0, .ref b1, .ref b2, .long 0, .int 0, .int 0, .int 0]))] s.heap := hP
  have hl := lv_entry ([.ref h0, .int p0, .int p1]) (n := 4) (Nat.le_of_ble_eq_true rfl)
  rw [lg_entry_eq]
  generalize (lg_sl ([.ref h0, .int p0, .int p1]) ++ List.replicate (4 - (lg_sl ([.ref h0, .int p0, .int p1])).length) Slot.unset).toArray = ls at hl ⊢
  have hl : lv_has ls 4 [(0, .ref h0), (1, .int p0), (2, .int p1)] := hl
  refine lv_iload_n hx hb dX4_tell_0 rfl (lv_at hl 1 rfl) ?_
  refine lv_iconst (v := 0) hx hb dX4_tell_1 (by decide) ?_
  refine lv_aload_n hx hb dX4_tell_2 rfl (lv_at hl 0 rfl) ?_
  refine va_get (D := (dC, dI)) (ci := 5) (v := .int 0) (C := RX4) (T := TX4) (N := 7) hx hb hts in_planTell_X4 hown hK hP 0 rfl rfl 4 (by decide) (hts (.fieldLink RX4 25 "ServiceTree$Plan" "size" "I") (by decide +kernel)) (fun _ h9 => h9) rfl dX4_tell_3 ?_
  refine lv_iconst (v := 1) hx hb dX4_tell_6 (by decide) ?_
  refine lv_isub hx hb dX4_tell_7 ?_
  refine lv_topi (fun x_1 ex_1 => ?_)
  obtain rfl : x_1 = (-1) := ex_1.trans (by decide)
  have hPc := hP.sub (ws' := []) [] rfl
  have hDc := hD.sub (ws' := []) [] (by decide) rfl
  have hKc := hK.sub (tys' := []) [] rfl
  have hFc := va_free (wc := []) hD hS hA [] rfl
  refine va_calli (va_runSN (As := [.int p0, .int 0, .int (-1)]) (rest := []) ⟨hx, hb, hml, hown, hts⟩ (c_within l dC dI p0 0 (-1) s.heap.size) ⟨va_cnB 3 hts wc_planTell_within_50 rfl rfl rfl (hN (.methodLinkNest RX4 50 yX8_within "ServiceTree") (by decide +kernel)) (hts (.initialized RX8) (by decide +kernel)) (by decide +kernel) ⟨Nat.le_of_ble_eq_true rfl, Nat.le_of_ble_eq_true rfl⟩, hts (.static yX8_within) (by decide +kernel), trivial⟩ ⟨fun a U g mk q => by obtain ⟨q0, q1, qP, qK, qD, qN⟩ := q; exact ⟨q0, q1, qP, va_K.moved (u := U) (U := U.calling g mk a) (Vm.Alike.refl U.vm) qK, qD, pw_N.same (u := U) (U := U.calling g mk a) rfl qN⟩, fun U hU hW => ⟨rfl, by rw [hU], by rw [hU]; exact hPc, va_K.moved hW.alike hKc, hDc.weaken (fun _ _ _ _ => trivial), pw_N.warm hW hN⟩⟩ rfl rfl hl.1 rfl (lv_room (Nat.le_of_ble_eq_true rfl)) dX4_tell_8 ⟨Nat.le_of_ble_eq_true rfl, Nat.le_of_ble_eq_true rfl⟩) hS (fun q _ h => hFc q h) hFc (fun r_2 u t H1 locs ht hvm hw hB hz1 hk1 hS => ?_)
  obtain ⟨hP1, hD1⟩ := hB
  rw [ht] at hP1
  obtain ⟨hP, hD⟩ := va_join (wr := [(h0, .inr (5, [.ref b0, .ref b1, .ref b2, .long 0, .int 0, .int 0, .int 0]))]) (w1 := []) hP hD [] [0] rfl rfl (by decide) (by decide) hk1 hFc hP1 hD1
  generalize H1 = H at hP hS ⊢
  replace hP : va_P (dC, dI) vwCl [(h0, .inr (5, [.ref b0, .ref b1, .ref b2, .long 0, .int 0, .int 0, .int 0]))] H := hP
  replace hD : va_D A [(h0, .inr (5, [.ref b0, .ref b1, .ref b2, .long 0, .int 0, .int 0, .int 0]))] := hD
  try dsimp only at hw
  rcases Classical.em (0 ≤ p0 ∧ p0 ≤ (-1)) with h_3 | h_3
  · exact False.elim (by have k0 := h_3; simp only [p1_le, p1_lt, p1_eq, p1_m6, p1_m1, p1_0, p1_1, p1_2, p1_3, p1_4, p1_5, p1_6, p1_7, p1_8, p1_9, p1_10, p1_11, p1_12, p1_13, p1_14, p1_15, p1_16, p1_17, p1_18, p1_19, p1_20, p1_40, p1_50, p1_200, p1_1000] at k0; omega)
  · obtain rfl : r_2 = 0 := hw.trans (if_neg h_3)
    refine lv_if_ne (tgt := 16) hx hb dX4_tell_11 (by decide) (fun c9 => absurd (by decide) c9) (fun _ => ?_)
    refine lv_iconst (v := (-1)) hx hb dX4_tell_14 (by decide) ?_
    have hP9 := hP.sub (ws' := [(h0, .inr (5, [.ref b0, .ref b1, .ref b2, .long 0, .int 0, .int 0, .int 0]))]) [0] rfl
    have hD9 := hD.sub (ws' := [(h0, .inr (5, [.ref b0, .ref b1, .ref b2, .long 0, .int 0, .int 0, .int 0]))]) [0] (by decide) rfl
    exact W.iret (v := (-1)) hx hb hr (fun t ht hW => ⟨⟨(-1), (), rfl, rfl, by rw [ht]; exact hP9, hD9⟩, hS.F ht⟩) hS.2.2 dX4_tell_15
def wq_t_planned : List Cond := [.code yX8_planned cX8_planned 3 (some .int), .fieldLink RX8 42 "ServiceTree" "latestPlan" "LServiceTree$Plan;", .methodLink RX8 207 yX4_tell, .instanceMethod yX4_tell, .selects RX4 yX4_tell yX4_tell, .initialized RX4] ++ (wsX80 ++ (wq_planTell))
theorem in_t_planned_X8 : ∀ w ∈ wsX80, w ∈ wq_t_planned := fun _ h => List.mem_append_right _ (List.mem_append_left _ (h))
set_option maxRecDepth 20000 in
theorem wi_t_planned : ∀ w ∈ wq_t_planned, w ∈ lw_tbl := List.forall_mem_append.mpr ⟨(by decide +kernel), List.forall_mem_append.mpr ⟨inKX8, wi_planTell⟩⟩
set_option maxRecDepth 20000 in
theorem wg_t_planned : GoodIn wq_t_planned wq_t_planned := goodIn_sub (fun _ h => h) (by decide +kernel)
set_option maxRecDepth 20000 in
theorem wc_t_planned_planTell_207 : GoodIn wq_t_planned (wsV RX8 207 RX4 yX4_tell wq_planTell) := goodIn_app (goodIn_of _ (by decide +kernel)) (fun w h => ⟨List.mem_append_right _ (List.mem_append_right _ (h)), (wg_planTell w h).2⟩)
set_option maxHeartbeats 4000000 in
set_option maxRecDepth 100000 in
theorem c_t_planned (l : Launch) (dC : Nat → ClassId) (dI : Nat → Nat → Nat) (h0 : Nat) (a : Nat → Nat) (nw : Int32) (b0 : Nat) (b1 : Nat) (b2 : Nat) (p0 : Int32) (p1 : Int32) (sz : Nat) : Met l yX8_planned wq_t_planned ({ frames := 2, cells := 0, slots := 0, locals := 45 }) (va_Pc [.ref h0, .int p0, .int p1] (fun U => U.heap.size = sz ∧ va_P (dC, dI) vwCl [(h0, .inr (9, [.ref (a 0), .ref (a 1), .ref (a 2), .ref (a 3), .ref (a 4), .ref (a 5), .ref (a 6), .long 0, .long 0, .int nw, .int 0, .int 0, .int 0, .int 0])), (a 4, .inr (5, [.ref b0, .ref b1, .ref b2, .long 0, .int 0, .int 0, .int 0]))] U.heap ∧ va_K (dC, dI) vwCl [] U ∧ va_D (fun _ => True) [(h0, .inr (9, [.ref (a 0), .ref (a 1), .ref (a 2), .ref (a 3), .ref (a 4), .ref (a 5), .ref (a 6), .long 0, .long 0, .int nw, .int 0, .int 0, .int 0, .int 0])), (a 4, .inr (5, [.ref b0, .ref b1, .ref b2, .long 0, .int 0, .int 0, .int 0]))] ∧ pw_N U)) (va_Qi (fun (r : Int32) (_ : Unit) => r = (-1)) (fun (_ : Unit) (t : State) => va_P (dC, dI) vwCl [(h0, .inr (9, [.ref (a 0), .ref (a 1), .ref (a 2), .ref (a 3), .ref (a 4), .ref (a 5), .ref (a 6), .long 0, .long 0, .int nw, .int 0, .int 0, .int 0, .int 0])), (a 4, .inr (5, [.ref b0, .ref b1, .ref b2, .long 0, .int 0, .int 0, .int 0]))] t.heap ∧ va_D (va_A [(h0, .inr (9, [.ref (a 0), .ref (a 1), .ref (a 2), .ref (a 3), .ref (a 4), .ref (a 5), .ref (a 6), .long 0, .long 0, .int nw, .int 0, .int 0, .int 0, .int 0])), (a 4, .inr (5, [.ref b0, .ref b1, .ref b2, .long 0, .int 0, .int 0, .int 0]))] sz) [(h0, .inr (9, [.ref (a 0), .ref (a 1), .ref (a 2), .ref (a 3), .ref (a 4), .ref (a 5), .ref (a 6), .long 0, .long 0, .int nw, .int 0, .int 0, .int 0, .int 0])), (a 4, .inr (5, [.ref b0, .ref b1, .ref b2, .long 0, .int 0, .int 0, .int 0]))]) (va_A [(h0, .inr (9, [.ref (a 0), .ref (a 1), .ref (a 2), .ref (a 3), .ref (a 4), .ref (a 5), .ref (a 6), .long 0, .long 0, .int nw, .int 0, .int 0, .int 0, .int 0])), (a 4, .inr (5, [.ref b0, .ref b1, .ref b2, .long 0, .int 0, .int 0, .int 0]))] sz)) 0 0 (va_A [(h0, .inr (9, [.ref (a 0), .ref (a 1), .ref (a 2), .ref (a 3), .ref (a 4), .ref (a 5), .ref (a 6), .long 0, .long 0, .int nw, .int 0, .int 0, .int 0, .int 0])), (a 4, .inr (5, [.ref b0, .ref b1, .ref b2, .long 0, .int 0, .int 0, .int 0]))] sz) := by
  refine Met.ofW (cc := cX8_planned) (maxL := 3) (ret := (some .int)) (by decide) rfl ?_
  intro p e s m args below meth c s₁ B hml hv
  obtain ⟨rfl, hsz, hP, hK, hD0, hN⟩ := hv
  have hx := B.exec
  have hb := B.bytes
  have hr := B.returns
  have hts := atoms_spec (ws := wq_t_planned) B.pre
  have hown : s.vm.findClass RX8 = some m.cls := findClass_of_methodNamed B.named
  have hlocks := B.notSynchronized
  subst hsz
  have hD := hD0.self (sz := s.heap.size)
  generalize hAe : va_A [(h0, .inr (9, [.ref (a 0), .ref (a 1), .ref (a 2), .ref (a 3), .ref (a 4), .ref (a 5), .ref (a 6), .long 0, .long 0, .int nw, .int 0, .int 0, .int 0, .int 0])), (a 4, .inr (5, [.ref b0, .ref b1, .ref b2, .long 0, .int 0, .int 0, .int 0]))] s.heap.size = A at hD ⊢
  have hA : ∀ q : Nat, s.heap.size ≤ q → A q := fun q h => by rw [← hAe]; exact Or.inr h
  have hS : va_S A s.heap s.heap [] := va_S.rf
  have hP : va_P (dC, dI) vwCl [(h0, .inr (9, [.ref (a 0), .ref (a 1), .ref (a 2), .ref (a 3), .ref (a 4), .ref (a 5), .ref (a 6), .long 0, .long 0, .int nw, .int 0, .int 0, .int 0, .int 0])), (a 4, .inr (5, [.ref b0, .ref b1, .ref b2, .long 0, .int 0, .int 0, .int 0]))] s.heap := hP
  have hl := lv_entry ([.ref h0, .int p0, .int p1]) (n := 3) (Nat.le_of_ble_eq_true rfl)
  rw [lg_entry_eq]
  generalize (lg_sl ([.ref h0, .int p0, .int p1]) ++ List.replicate (3 - (lg_sl ([.ref h0, .int p0, .int p1])).length) Slot.unset).toArray = ls at hl ⊢
  have hl : lv_has ls 3 [(0, .ref h0), (1, .int p0), (2, .int p1)] := hl
  refine lv_aload_n hx hb dX8_planned_0 rfl (lv_at hl 0 rfl) ?_
  refine va_get (D := (dC, dI)) (ci := 9) (v := .ref (a 4)) (C := RX8) (T := TX8) (N := 14) hx hb hts in_t_planned_X8 hown hK hP 0 rfl rfl 4 (by decide) (hts (.fieldLink RX8 42 "ServiceTree" "latestPlan" "LServiceTree$Plan;") (by decide +kernel)) (fun _ h9 => h9) rfl dX8_planned_1 ?_
  refine lv_iload_n hx hb dX8_planned_4 rfl (lv_at hl 1 rfl) ?_
  refine lv_iload_n hx hb dX8_planned_5 rfl (lv_at hl 2 rfl) ?_
  have hPc := hP.sub (ws' := [(a 4, .inr (5, [.ref b0, .ref b1, .ref b2, .long 0, .int 0, .int 0, .int 0]))]) [1] rfl
  have hDc := hD.sub (ws' := [(a 4, .inr (5, [.ref b0, .ref b1, .ref b2, .long 0, .int 0, .int 0, .int 0]))]) [1] (by decide) rfl
  have hKc := hK.sub (tys' := []) [] rfl
  have hFc := va_free (wc := [(a 4, .inr (5, [.ref b0, .ref b1, .ref b2, .long 0, .int 0, .int 0, .int 0]))]) hD hS hA [1] rfl
  refine va_calli (va_runV (As := [.int p0, .int p1]) (rest := []) ⟨hx, hb, hml, hown, hts⟩ (c_planTell l dC dI (a 4) b0 b1 b2 p0 p1 s.heap.size) (cwV 2 hts wc_t_planned_planTell_207 rfl rfl rfl (by decide +kernel) ⟨Nat.le_of_ble_eq_true rfl, Nat.le_of_ble_eq_true rfl⟩) ⟨fun a U g mk q => by obtain ⟨q0, q1, qP, qK, qD, qN⟩ := q; exact ⟨q0, q1, qP, va_K.moved (u := U) (U := U.calling g mk a) (Vm.Alike.refl U.vm) qK, qD, pw_N.same (u := U) (U := U.calling g mk a) rfl qN⟩, va_recv hKc hPc (ci := 5) (q0 := 0) rfl rfl, fun U hU hW => ⟨rfl, by rw [hU], by rw [hU]; exact hPc, va_K.moved hW.alike hKc, hDc.weaken (fun _ _ _ _ => trivial), pw_N.warm hW hN⟩⟩ rfl rfl hl.1 rfl (lv_room (Nat.le_of_ble_eq_true rfl)) dX8_planned_6 ⟨Nat.le_of_ble_eq_true rfl, Nat.le_of_ble_eq_true rfl⟩) hS (fun q _ h => hFc q h) hFc (fun r_1 u t H1 locs ht hvm hw hB hz1 hk1 hS => ?_)
  obtain ⟨hP1, hD1⟩ := hB
  rw [ht] at hP1
  obtain ⟨hP, hD⟩ := va_join (wr := [(h0, .inr (9, [.ref (a 0), .ref (a 1), .ref (a 2), .ref (a 3), .ref (a 4), .ref (a 5), .ref (a 6), .long 0, .long 0, .int nw, .int 0, .int 0, .int 0, .int 0]))]) (w1 := [(a 4, .inr (5, [.ref b0, .ref b1, .ref b2, .long 0, .int 0, .int 0, .int 0]))]) hP hD [1] [0] rfl rfl (by decide) (by decide) hk1 hFc hP1 hD1
  generalize H1 = H at hP hS ⊢
  replace hP : va_P (dC, dI) vwCl [(h0, .inr (9, [.ref (a 0), .ref (a 1), .ref (a 2), .ref (a 3), .ref (a 4), .ref (a 5), .ref (a 6), .long 0, .long 0, .int nw, .int 0, .int 0, .int 0, .int 0])), (a 4, .inr (5, [.ref b0, .ref b1, .ref b2, .long 0, .int 0, .int 0, .int 0]))] H := hP
  replace hD : va_D A [(h0, .inr (9, [.ref (a 0), .ref (a 1), .ref (a 2), .ref (a 3), .ref (a 4), .ref (a 5), .ref (a 6), .long 0, .long 0, .int nw, .int 0, .int 0, .int 0, .int 0])), (a 4, .inr (5, [.ref b0, .ref b1, .ref b2, .long 0, .int 0, .int 0, .int 0]))] := hD
  try dsimp only at hw
  subst hw
  have hP9 := hP.sub (ws' := [(h0, .inr (9, [.ref (a 0), .ref (a 1), .ref (a 2), .ref (a 3), .ref (a 4), .ref (a 5), .ref (a 6), .long 0, .long 0, .int nw, .int 0, .int 0, .int 0, .int 0])), (a 4, .inr (5, [.ref b0, .ref b1, .ref b2, .long 0, .int 0, .int 0, .int 0]))]) [0, 1] rfl
  have hD9 := hD.sub (ws' := [(h0, .inr (9, [.ref (a 0), .ref (a 1), .ref (a 2), .ref (a 3), .ref (a 4), .ref (a 5), .ref (a 6), .long 0, .long 0, .int nw, .int 0, .int 0, .int 0, .int 0])), (a 4, .inr (5, [.ref b0, .ref b1, .ref b2, .long 0, .int 0, .int 0, .int 0]))]) [0, 1] (by decide) rfl
  exact W.iret (v := (-1)) hx hb hr (fun t ht hW => ⟨⟨(-1), (), rfl, rfl, by rw [ht]; exact hP9, hD9⟩, hS.F ht⟩) hS.2.2 dX8_planned_9
def wq_t_quick : List Cond := [.code yX8_quick cX8_quick 1 (some .int), .fieldLink RX8 42 "ServiceTree" "latestPlan" "LServiceTree$Plan;"] ++ (wsX40 ++ (wsX80))
theorem in_t_quick_X4 : ∀ w ∈ wsX40, w ∈ wq_t_quick := fun _ h => List.mem_append_right _ (List.mem_append_left _ (h))
theorem in_t_quick_X8 : ∀ w ∈ wsX80, w ∈ wq_t_quick := fun _ h => List.mem_append_right _ (List.mem_append_right _ (h))
set_option maxRecDepth 20000 in
theorem wi_t_quick : ∀ w ∈ wq_t_quick, w ∈ lw_tbl := List.forall_mem_append.mpr ⟨(by decide +kernel), List.forall_mem_append.mpr ⟨inKX4, inKX8⟩⟩
set_option maxRecDepth 20000 in
theorem wg_t_quick : GoodIn wq_t_quick wq_t_quick := goodIn_sub (fun _ h => h) (by decide +kernel)
set_option maxHeartbeats 4000000 in
set_option maxRecDepth 100000 in
theorem c_t_quick (l : Launch) (dC : Nat → ClassId) (dI : Nat → Nat → Nat) (h0 : Nat) (a : Nat → Nat) (nw : Int32) (b0 : Nat) (b1 : Nat) (b2 : Nat) (sz : Nat) : Met l yX8_quick wq_t_quick ({ frames := 0, cells := 0, slots := 0, locals := 0 }) (va_Pc [.ref h0] (fun U => U.heap.size = sz ∧ va_P (dC, dI) vwCl [(h0, .inr (9, [.ref (a 0), .ref (a 1), .ref (a 2), .ref (a 3), .ref (a 4), .ref (a 5), .ref (a 6), .long 0, .long 0, .int nw, .int 0, .int 0, .int 0, .int 0])), (a 4, .inr (5, [.ref b0, .ref b1, .ref b2, .long 0, .int 0, .int 0, .int 0]))] U.heap ∧ va_K (dC, dI) vwCl [] U ∧ va_D (fun _ => True) [(h0, .inr (9, [.ref (a 0), .ref (a 1), .ref (a 2), .ref (a 3), .ref (a 4), .ref (a 5), .ref (a 6), .long 0, .long 0, .int nw, .int 0, .int 0, .int 0, .int 0])), (a 4, .inr (5, [.ref b0, .ref b1, .ref b2, .long 0, .int 0, .int 0, .int 0]))] ∧ pw_N U)) (va_Qi (fun (r : Int32) (_ : Unit) => r = (-1)) (fun (_ : Unit) (t : State) => va_P (dC, dI) vwCl [(h0, .inr (9, [.ref (a 0), .ref (a 1), .ref (a 2), .ref (a 3), .ref (a 4), .ref (a 5), .ref (a 6), .long 0, .long 0, .int nw, .int 0, .int 0, .int 0, .int 0])), (a 4, .inr (5, [.ref b0, .ref b1, .ref b2, .long 0, .int 0, .int 0, .int 0]))] t.heap ∧ va_D (va_A [(h0, .inr (9, [.ref (a 0), .ref (a 1), .ref (a 2), .ref (a 3), .ref (a 4), .ref (a 5), .ref (a 6), .long 0, .long 0, .int nw, .int 0, .int 0, .int 0, .int 0])), (a 4, .inr (5, [.ref b0, .ref b1, .ref b2, .long 0, .int 0, .int 0, .int 0]))] sz) [(h0, .inr (9, [.ref (a 0), .ref (a 1), .ref (a 2), .ref (a 3), .ref (a 4), .ref (a 5), .ref (a 6), .long 0, .long 0, .int nw, .int 0, .int 0, .int 0, .int 0])), (a 4, .inr (5, [.ref b0, .ref b1, .ref b2, .long 0, .int 0, .int 0, .int 0]))]) (va_A [(h0, .inr (9, [.ref (a 0), .ref (a 1), .ref (a 2), .ref (a 3), .ref (a 4), .ref (a 5), .ref (a 6), .long 0, .long 0, .int nw, .int 0, .int 0, .int 0, .int 0])), (a 4, .inr (5, [.ref b0, .ref b1, .ref b2, .long 0, .int 0, .int 0, .int 0]))] sz)) 0 0 (va_A [(h0, .inr (9, [.ref (a 0), .ref (a 1), .ref (a 2), .ref (a 3), .ref (a 4), .ref (a 5), .ref (a 6), .long 0, .long 0, .int nw, .int 0, .int 0, .int 0, .int 0])), (a 4, .inr (5, [.ref b0, .ref b1, .ref b2, .long 0, .int 0, .int 0, .int 0]))] sz) := by
  refine Met.ofW (cc := cX8_quick) (maxL := 1) (ret := (some .int)) (by decide) rfl ?_
  intro p e s m args below meth c s₁ B hml hv
  obtain ⟨rfl, hsz, hP, hK, hD0, hN⟩ := hv
  have hx := B.exec
  have hb := B.bytes
  have hr := B.returns
  have hts := atoms_spec (ws := wq_t_quick) B.pre
  have hown : s.vm.findClass RX8 = some m.cls := findClass_of_methodNamed B.named
  have hlocks := B.notSynchronized
  subst hsz
  have hD := hD0.self (sz := s.heap.size)
  generalize hAe : va_A [(h0, .inr (9, [.ref (a 0), .ref (a 1), .ref (a 2), .ref (a 3), .ref (a 4), .ref (a 5), .ref (a 6), .long 0, .long 0, .int nw, .int 0, .int 0, .int 0, .int 0])), (a 4, .inr (5, [.ref b0, .ref b1, .ref b2, .long 0, .int 0, .int 0, .int 0]))] s.heap.size = A at hD ⊢
  have hA : ∀ q : Nat, s.heap.size ≤ q → A q := fun q h => by rw [← hAe]; exact Or.inr h
  have hS : va_S A s.heap s.heap [] := va_S.rf
  have hP : va_P (dC, dI) vwCl [(h0, .inr (9, [.ref (a 0), .ref (a 1), .ref (a 2), .ref (a 3), .ref (a 4), .ref (a 5), .ref (a 6), .long 0, .long 0, .int nw, .int 0, .int 0, .int 0, .int 0])), (a 4, .inr (5, [.ref b0, .ref b1, .ref b2, .long 0, .int 0, .int 0, .int 0]))] s.heap := hP
  have hl := lv_entry ([.ref h0]) (n := 1) (Nat.le_of_ble_eq_true rfl)
  rw [lg_entry_eq]
  generalize (lg_sl ([.ref h0]) ++ List.replicate (1 - (lg_sl ([.ref h0])).length) Slot.unset).toArray = ls at hl ⊢
  have hl : lv_has ls 1 [(0, .ref h0)] := hl
  refine lv_aload_n hx hb dX8_quick_0 rfl (lv_at hl 0 rfl) ?_
  refine va_get (D := (dC, dI)) (ci := 9) (v := .ref (a 4)) (C := RX8) (T := TX8) (N := 14) hx hb hts in_t_quick_X8 hown hK hP 0 rfl rfl 4 (by decide) (hts (.fieldLink RX8 42 "ServiceTree" "latestPlan" "LServiceTree$Plan;") (by decide +kernel)) (fun _ h9 => h9) rfl dX8_quick_1 ?_
  refine va_getN (D := (dC, dI)) (ci := 5) (v := .int 0) (C := RX4) (T := TX4) (N := 7) hx hb hts in_t_quick_X4 hown hK hP 1 rfl rfl 6 (by decide) (va_Nw.use rfl (hN (.fieldLinkNest RX8 210 "ServiceTree$Plan" "laidOut" "Z" "ServiceTree") (by decide +kernel))) (fun _ h9 => h9) rfl dX8_quick_4 ?_
  refine lv_if_eq (tgt := 20) hx hb dX8_quick_7 (by decide) (fun _ => ?_) (fun c9 => absurd (by decide) c9)
  refine lv_iconst (v := (-1)) hx hb dX8_quick_20 (by decide) ?_
  have hP9 := hP.sub (ws' := [(h0, .inr (9, [.ref (a 0), .ref (a 1), .ref (a 2), .ref (a 3), .ref (a 4), .ref (a 5), .ref (a 6), .long 0, .long 0, .int nw, .int 0, .int 0, .int 0, .int 0])), (a 4, .inr (5, [.ref b0, .ref b1, .ref b2, .long 0, .int 0, .int 0, .int 0]))]) [0, 1] rfl
  have hD9 := hD.sub (ws' := [(h0, .inr (9, [.ref (a 0), .ref (a 1), .ref (a 2), .ref (a 3), .ref (a 4), .ref (a 5), .ref (a 6), .long 0, .long 0, .int nw, .int 0, .int 0, .int 0, .int 0])), (a 4, .inr (5, [.ref b0, .ref b1, .ref b2, .long 0, .int 0, .int 0, .int 0]))]) [0, 1] (by decide) rfl
  exact W.iret (v := (-1)) hx hb hr (fun t ht hW => ⟨⟨(-1), (), rfl, rfl, by rw [ht]; exact hP9, hD9⟩, hS.F ht⟩) hS.2.2 dX8_quick_21
def wq_t_ring : List Cond := [.code yX8_ring cX8_ring 1 (some .int), .fieldLink RX8 216 "ServiceTree" "latestRing" "I"] ++ (wsX80)
theorem in_t_ring_X8 : ∀ w ∈ wsX80, w ∈ wq_t_ring := fun _ h => List.mem_append_right _ (h)
set_option maxRecDepth 20000 in
theorem wi_t_ring : ∀ w ∈ wq_t_ring, w ∈ lw_tbl := List.forall_mem_append.mpr ⟨(by decide +kernel), inKX8⟩
set_option maxRecDepth 20000 in
theorem wg_t_ring : GoodIn wq_t_ring wq_t_ring := goodIn_sub (fun _ h => h) (by decide +kernel)
set_option maxHeartbeats 4000000 in
set_option maxRecDepth 100000 in
theorem c_t_ring (l : Launch) (dC : Nat → ClassId) (dI : Nat → Nat → Nat) (h0 : Nat) (a : Nat → Nat) (nw : Int32) (sz : Nat) : Met l yX8_ring wq_t_ring ({ frames := 0, cells := 0, slots := 0, locals := 0 }) (va_Pc [.ref h0] (fun U => U.heap.size = sz ∧ va_P (dC, dI) vwCl [(h0, .inr (9, [.ref (a 0), .ref (a 1), .ref (a 2), .ref (a 3), .ref (a 4), .ref (a 5), .ref (a 6), .long 0, .long 0, .int nw, .int 0, .int 0, .int 0, .int 0]))] U.heap ∧ va_K (dC, dI) vwCl [] U ∧ va_D (fun _ => True) [(h0, .inr (9, [.ref (a 0), .ref (a 1), .ref (a 2), .ref (a 3), .ref (a 4), .ref (a 5), .ref (a 6), .long 0, .long 0, .int nw, .int 0, .int 0, .int 0, .int 0]))] ∧ pw_N U)) (va_Qi (fun (r : Int32) (_ : Unit) => r = 0) (fun (_ : Unit) (t : State) => va_P (dC, dI) vwCl [(h0, .inr (9, [.ref (a 0), .ref (a 1), .ref (a 2), .ref (a 3), .ref (a 4), .ref (a 5), .ref (a 6), .long 0, .long 0, .int nw, .int 0, .int 0, .int 0, .int 0]))] t.heap ∧ va_D (va_A [(h0, .inr (9, [.ref (a 0), .ref (a 1), .ref (a 2), .ref (a 3), .ref (a 4), .ref (a 5), .ref (a 6), .long 0, .long 0, .int nw, .int 0, .int 0, .int 0, .int 0]))] sz) [(h0, .inr (9, [.ref (a 0), .ref (a 1), .ref (a 2), .ref (a 3), .ref (a 4), .ref (a 5), .ref (a 6), .long 0, .long 0, .int nw, .int 0, .int 0, .int 0, .int 0]))]) (va_A [(h0, .inr (9, [.ref (a 0), .ref (a 1), .ref (a 2), .ref (a 3), .ref (a 4), .ref (a 5), .ref (a 6), .long 0, .long 0, .int nw, .int 0, .int 0, .int 0, .int 0]))] sz)) 0 0 (va_A [(h0, .inr (9, [.ref (a 0), .ref (a 1), .ref (a 2), .ref (a 3), .ref (a 4), .ref (a 5), .ref (a 6), .long 0, .long 0, .int nw, .int 0, .int 0, .int 0, .int 0]))] sz) := by
  refine Met.ofW (cc := cX8_ring) (maxL := 1) (ret := (some .int)) (by decide) rfl ?_
  intro p e s m args below meth c s₁ B hml hv
  obtain ⟨rfl, hsz, hP, hK, hD0, hN⟩ := hv
  have hx := B.exec
  have hb := B.bytes
  have hr := B.returns
  have hts := atoms_spec (ws := wq_t_ring) B.pre
  have hown : s.vm.findClass RX8 = some m.cls := findClass_of_methodNamed B.named
  have hlocks := B.notSynchronized
  subst hsz
  have hD := hD0.self (sz := s.heap.size)
  generalize hAe : va_A [(h0, .inr (9, [.ref (a 0), .ref (a 1), .ref (a 2), .ref (a 3), .ref (a 4), .ref (a 5), .ref (a 6), .long 0, .long 0, .int nw, .int 0, .int 0, .int 0, .int 0]))] s.heap.size = A at hD ⊢
  have hA : ∀ q : Nat, s.heap.size ≤ q → A q := fun q h => by rw [← hAe]; exact Or.inr h
  have hS : va_S A s.heap s.heap [] := va_S.rf
  have hP : va_P (dC, dI) vwCl [(h0, .inr (9, [.ref (a 0), .ref (a 1), .ref (a 2), .ref (a 3), .ref (a 4), .ref (a 5), .ref (a 6), .long 0, .long 0, .int nw, .int 0, .int 0, .int 0, .int 0]))] s.heap := hP
  have hl := lv_entry ([.ref h0]) (n := 1) (Nat.le_of_ble_eq_true rfl)
  rw [lg_entry_eq]
  generalize (lg_sl ([.ref h0]) ++ List.replicate (1 - (lg_sl ([.ref h0])).length) Slot.unset).toArray = ls at hl ⊢
  have hl : lv_has ls 1 [(0, .ref h0)] := hl
  refine lv_aload_n hx hb dX8_ring_0 rfl (lv_at hl 0 rfl) ?_
  refine va_get (D := (dC, dI)) (ci := 9) (v := .int 0) (C := RX8) (T := TX8) (N := 14) hx hb hts in_t_ring_X8 hown hK hP 0 rfl rfl 12 (by decide) (hts (.fieldLink RX8 216 "ServiceTree" "latestRing" "I") (by decide +kernel)) (fun _ h9 => h9) rfl dX8_ring_1 ?_
  have hP9 := hP.sub (ws' := [(h0, .inr (9, [.ref (a 0), .ref (a 1), .ref (a 2), .ref (a 3), .ref (a 4), .ref (a 5), .ref (a 6), .long 0, .long 0, .int nw, .int 0, .int 0, .int 0, .int 0]))]) [0] rfl
  have hD9 := hD.sub (ws' := [(h0, .inr (9, [.ref (a 0), .ref (a 1), .ref (a 2), .ref (a 3), .ref (a 4), .ref (a 5), .ref (a 6), .long 0, .long 0, .int nw, .int 0, .int 0, .int 0, .int 0]))]) [0] (by decide) rfl
  exact W.iret (v := 0) hx hb hr (fun t ht hW => ⟨⟨0, (), rfl, rfl, by rw [ht]; exact hP9, hD9⟩, hS.F ht⟩) hS.2.2 dX8_ring_4
def wq_t_changes : List Cond := [.code yX8_changes cX8_changes 1 (some .int), .fieldLink RX8 49 "ServiceTree" "history" "LServiceTree$History;"] ++ (wsX20 ++ (wsX80))
theorem in_t_changes_X2 : ∀ w ∈ wsX20, w ∈ wq_t_changes := fun _ h => List.mem_append_right _ (List.mem_append_left _ (h))
theorem in_t_changes_X8 : ∀ w ∈ wsX80, w ∈ wq_t_changes := fun _ h => List.mem_append_right _ (List.mem_append_right _ (h))
set_option maxRecDepth 20000 in
theorem wi_t_changes : ∀ w ∈ wq_t_changes, w ∈ lw_tbl := List.forall_mem_append.mpr ⟨(by decide +kernel), List.forall_mem_append.mpr ⟨inKX2, inKX8⟩⟩
set_option maxRecDepth 20000 in
theorem wg_t_changes : GoodIn wq_t_changes wq_t_changes := goodIn_sub (fun _ h => h) (by decide +kernel)
set_option maxHeartbeats 4000000 in
set_option maxRecDepth 100000 in
theorem c_t_changes (l : Launch) (dC : Nat → ClassId) (dI : Nat → Nat → Nat) (h0 : Nat) (a : Nat → Nat) (nw : Int32) (b : Nat) (sz : Nat) : Met l yX8_changes wq_t_changes ({ frames := 0, cells := 0, slots := 0, locals := 0 }) (va_Pc [.ref h0] (fun U => U.heap.size = sz ∧ va_P (dC, dI) vwCl [(h0, .inr (9, [.ref (a 0), .ref (a 1), .ref (a 2), .ref (a 3), .ref (a 4), .ref (a 5), .ref (a 6), .long 0, .long 0, .int nw, .int 0, .int 0, .int 0, .int 0])), (a 5, .inr (3, [.ref b, .int 0]))] U.heap ∧ va_K (dC, dI) vwCl [] U ∧ va_D (fun _ => True) [(h0, .inr (9, [.ref (a 0), .ref (a 1), .ref (a 2), .ref (a 3), .ref (a 4), .ref (a 5), .ref (a 6), .long 0, .long 0, .int nw, .int 0, .int 0, .int 0, .int 0])), (a 5, .inr (3, [.ref b, .int 0]))] ∧ pw_N U)) (va_Qi (fun (r : Int32) (_ : Unit) => r = 0) (fun (_ : Unit) (t : State) => va_P (dC, dI) vwCl [(h0, .inr (9, [.ref (a 0), .ref (a 1), .ref (a 2), .ref (a 3), .ref (a 4), .ref (a 5), .ref (a 6), .long 0, .long 0, .int nw, .int 0, .int 0, .int 0, .int 0])), (a 5, .inr (3, [.ref b, .int 0]))] t.heap ∧ va_D (va_A [(h0, .inr (9, [.ref (a 0), .ref (a 1), .ref (a 2), .ref (a 3), .ref (a 4), .ref (a 5), .ref (a 6), .long 0, .long 0, .int nw, .int 0, .int 0, .int 0, .int 0])), (a 5, .inr (3, [.ref b, .int 0]))] sz) [(h0, .inr (9, [.ref (a 0), .ref (a 1), .ref (a 2), .ref (a 3), .ref (a 4), .ref (a 5), .ref (a 6), .long 0, .long 0, .int nw, .int 0, .int 0, .int 0, .int 0])), (a 5, .inr (3, [.ref b, .int 0]))]) (va_A [(h0, .inr (9, [.ref (a 0), .ref (a 1), .ref (a 2), .ref (a 3), .ref (a 4), .ref (a 5), .ref (a 6), .long 0, .long 0, .int nw, .int 0, .int 0, .int 0, .int 0])), (a 5, .inr (3, [.ref b, .int 0]))] sz)) 0 0 (va_A [(h0, .inr (9, [.ref (a 0), .ref (a 1), .ref (a 2), .ref (a 3), .ref (a 4), .ref (a 5), .ref (a 6), .long 0, .long 0, .int nw, .int 0, .int 0, .int 0, .int 0])), (a 5, .inr (3, [.ref b, .int 0]))] sz) := by
  refine Met.ofW (cc := cX8_changes) (maxL := 1) (ret := (some .int)) (by decide) rfl ?_
  intro p e s m args below meth c s₁ B hml hv
  obtain ⟨rfl, hsz, hP, hK, hD0, hN⟩ := hv
  have hx := B.exec
  have hb := B.bytes
  have hr := B.returns
  have hts := atoms_spec (ws := wq_t_changes) B.pre
  have hown : s.vm.findClass RX8 = some m.cls := findClass_of_methodNamed B.named
  have hlocks := B.notSynchronized
  subst hsz
  have hD := hD0.self (sz := s.heap.size)
  generalize hAe : va_A [(h0, .inr (9, [.ref (a 0), .ref (a 1), .ref (a 2), .ref (a 3), .ref (a 4), .ref (a 5), .ref (a 6), .long 0, .long 0, .int nw, .int 0, .int 0, .int 0, .int 0])), (a 5, .inr (3, [.ref b, .int 0]))] s.heap.size = A at hD ⊢
  have hA : ∀ q : Nat, s.heap.size ≤ q → A q := fun q h => by rw [← hAe]; exact Or.inr h
  have hS : va_S A s.heap s.heap [] := va_S.rf
  have hP : va_P (dC, dI) vwCl [(h0, .inr (9, [.ref (a 0), .ref (a 1), .ref (a 2), .ref (a 3), .ref (a 4), .ref (a 5), .ref (a 6), .long 0, .long 0, .int nw, .int 0, .int 0, .int 0, .int 0])), (a 5, .inr (3, [.ref b, .int 0]))] s.heap := hP
  have hl := lv_entry ([.ref h0]) (n := 1) (Nat.le_of_ble_eq_true rfl)
  rw [lg_entry_eq]
  generalize (lg_sl ([.ref h0]) ++ List.replicate (1 - (lg_sl ([.ref h0])).length) Slot.unset).toArray = ls at hl ⊢
  have hl : lv_has ls 1 [(0, .ref h0)] := hl
  refine lv_aload_n hx hb dX8_changes_0 rfl (lv_at hl 0 rfl) ?_
  refine va_get (D := (dC, dI)) (ci := 9) (v := .ref (a 5)) (C := RX8) (T := TX8) (N := 14) hx hb hts in_t_changes_X8 hown hK hP 0 rfl rfl 5 (by decide) (hts (.fieldLink RX8 49 "ServiceTree" "history" "LServiceTree$History;") (by decide +kernel)) (fun _ h9 => h9) rfl dX8_changes_1 ?_
  refine va_getN (D := (dC, dI)) (ci := 3) (v := .int 0) (C := RX2) (T := TX2) (N := 2) hx hb hts in_t_changes_X2 hown hK hP 1 rfl rfl 1 (by decide) (va_Nw.use rfl (hN (.fieldLinkNest RX8 219 "ServiceTree$History" "size" "I" "ServiceTree") (by decide +kernel))) (fun _ h9 => h9) rfl dX8_changes_4 ?_
  have hP9 := hP.sub (ws' := [(h0, .inr (9, [.ref (a 0), .ref (a 1), .ref (a 2), .ref (a 3), .ref (a 4), .ref (a 5), .ref (a 6), .long 0, .long 0, .int nw, .int 0, .int 0, .int 0, .int 0])), (a 5, .inr (3, [.ref b, .int 0]))]) [0, 1] rfl
  have hD9 := hD.sub (ws' := [(h0, .inr (9, [.ref (a 0), .ref (a 1), .ref (a 2), .ref (a 3), .ref (a 4), .ref (a 5), .ref (a 6), .long 0, .long 0, .int nw, .int 0, .int 0, .int 0, .int 0])), (a 5, .inr (3, [.ref b, .int 0]))]) [0, 1] (by decide) rfl
  exact W.iret (v := 0) hx hb hr (fun t ht hW => ⟨⟨0, (), rfl, rfl, by rw [ht]; exact hP9, hD9⟩, hS.F ht⟩) hS.2.2 dX8_changes_7
def wq_histTell : List Cond := [.code yX2_tell cX2_tell 5 (some .int), .fieldLink RX2 15 "ServiceTree$History" "size" "I"] ++ (wsX20)
theorem in_histTell_X2 : ∀ w ∈ wsX20, w ∈ wq_histTell := fun _ h => List.mem_append_right _ (h)
set_option maxRecDepth 20000 in
theorem wi_histTell : ∀ w ∈ wq_histTell, w ∈ lw_tbl := List.forall_mem_append.mpr ⟨(by decide +kernel), inKX2⟩
set_option maxRecDepth 20000 in
theorem wg_histTell : GoodIn wq_histTell wq_histTell := goodIn_sub (fun _ h => h) (by decide +kernel)
set_option maxHeartbeats 4000000 in
set_option maxRecDepth 100000 in
theorem c_histTell (l : Launch) (dC : Nat → ClassId) (dI : Nat → Nat → Nat) (h0 : Nat) (b : Nat) (p0 : Int32) (p1 : Int32) (sz : Nat) : Met l yX2_tell wq_histTell ({ frames := 0, cells := 0, slots := 0, locals := 0 }) (va_Pc [.ref h0, .int p0, .int p1] (fun U => U.heap.size = sz ∧ va_P (dC, dI) vwCl [(h0, .inr (3, [.ref b, .int 0]))] U.heap ∧ va_K (dC, dI) vwCl [] U ∧ va_D (fun _ => True) [(h0, .inr (3, [.ref b, .int 0]))] ∧ pw_N U)) (va_Qi (fun (r : Int32) (_ : Unit) => r = (-1)) (fun (_ : Unit) (t : State) => va_P (dC, dI) vwCl [(h0, .inr (3, [.ref b, .int 0]))] t.heap ∧ va_D (va_A [(h0, .inr (3, [.ref b, .int 0]))] sz) [(h0, .inr (3, [.ref b, .int 0]))]) (va_A [(h0, .inr (3, [.ref b, .int 0]))] sz)) 0 0 (va_A [(h0, .inr (3, [.ref b, .int 0]))] sz) := by
  refine Met.ofW (cc := cX2_tell) (maxL := 5) (ret := (some .int)) (by decide) rfl ?_
  intro p e s m args below meth c s₁ B hml hv
  obtain ⟨rfl, hsz, hP, hK, hD0, hN⟩ := hv
  have hx := B.exec
  have hb := B.bytes
  have hr := B.returns
  have hts := atoms_spec (ws := wq_histTell) B.pre
  have hown : s.vm.findClass RX2 = some m.cls := findClass_of_methodNamed B.named
  have hlocks := B.notSynchronized
  subst hsz
  have hD := hD0.self (sz := s.heap.size)
  generalize hAe : va_A [(h0, .inr (3, [.ref b, .int 0]))] s.heap.size = A at hD ⊢
  have hA : ∀ q : Nat, s.heap.size ≤ q → A q := fun q h => by rw [← hAe]; exact Or.inr h
  have hS : va_S A s.heap s.heap [] := va_S.rf
  have hP : va_P (dC, dI) vwCl [(h0, .inr (3, [.ref b, .int 0]))] s.heap := hP
  have hl := lv_entry ([.ref h0, .int p0, .int p1]) (n := 5) (Nat.le_of_ble_eq_true rfl)
  rw [lg_entry_eq]
  generalize (lg_sl ([.ref h0, .int p0, .int p1]) ++ List.replicate (5 - (lg_sl ([.ref h0, .int p0, .int p1])).length) Slot.unset).toArray = ls at hl ⊢
  have hl : lv_has ls 5 [(0, .ref h0), (1, .int p0), (2, .int p1)] := hl
  refine lv_iload_n hx hb dX2_tell_0 rfl (lv_at hl 1 rfl) ?_
  refine lv_if_lt (tgt := 24) hx hb dX2_tell_1 (by decide) (fun c_1 => ?_) (fun c_1 => ?_)
  · refine lv_iconst (v := (-1)) hx hb dX2_tell_24 (by decide) ?_
    have hP9 := hP.sub (ws' := [(h0, .inr (3, [.ref b, .int 0]))]) [0] rfl
    have hD9 := hD.sub (ws' := [(h0, .inr (3, [.ref b, .int 0]))]) [0] (by decide) rfl
    exact W.iret (v := (-1)) hx hb hr (fun t ht hW => ⟨⟨(-1), (), rfl, rfl, by rw [ht]; exact hP9, hD9⟩, hS.F ht⟩) hS.2.2 dX2_tell_25
  · refine lv_iload_n hx hb dX2_tell_4 rfl (lv_at hl 1 rfl) ?_
    refine lv_aload_n hx hb dX2_tell_5 rfl (lv_at hl 0 rfl) ?_
    refine va_get (D := (dC, dI)) (ci := 3) (v := .int 0) (C := RX2) (T := TX2) (N := 2) hx hb hts in_histTell_X2 hown hK hP 0 rfl rfl 1 (by decide) (hts (.fieldLink RX2 15 "ServiceTree$History" "size" "I") (by decide +kernel)) (fun _ h9 => h9) rfl dX2_tell_6 ?_
    refine lv_icmp_ge (tgt := 24) hx hb dX2_tell_9 (by decide) (fun c_2 => ?_) (fun c_2 => ?_)
    · refine lv_iconst (v := (-1)) hx hb dX2_tell_24 (by decide) ?_
      have hP9 := hP.sub (ws' := [(h0, .inr (3, [.ref b, .int 0]))]) [0] rfl
      have hD9 := hD.sub (ws' := [(h0, .inr (3, [.ref b, .int 0]))]) [0] (by decide) rfl
      exact W.iret (v := (-1)) hx hb hr (fun t ht hW => ⟨⟨(-1), (), rfl, rfl, by rw [ht]; exact hP9, hD9⟩, hS.F ht⟩) hS.2.2 dX2_tell_25
    · exact False.elim (by have k0 := c_1; have k1 := c_2; simp only [p1_le, p1_lt, p1_eq, p1_m6, p1_m1, p1_0, p1_1, p1_2, p1_3, p1_4, p1_5, p1_6, p1_7, p1_8, p1_9, p1_10, p1_11, p1_12, p1_13, p1_14, p1_15, p1_16, p1_17, p1_18, p1_19, p1_20, p1_40, p1_50, p1_200, p1_1000] at k0 k1; omega)
def wq_t_change : List Cond := [.code yX8_change cX8_change 3 (some .int), .fieldLink RX8 49 "ServiceTree" "history" "LServiceTree$History;", .methodLink RX8 220 yX2_tell, .instanceMethod yX2_tell, .selects RX2 yX2_tell yX2_tell, .initialized RX2] ++ (wsX80 ++ (wq_histTell))
theorem in_t_change_X8 : ∀ w ∈ wsX80, w ∈ wq_t_change := fun _ h => List.mem_append_right _ (List.mem_append_left _ (h))
set_option maxRecDepth 20000 in
theorem wi_t_change : ∀ w ∈ wq_t_change, w ∈ lw_tbl := List.forall_mem_append.mpr ⟨(by decide +kernel), List.forall_mem_append.mpr ⟨inKX8, wi_histTell⟩⟩
set_option maxRecDepth 20000 in
theorem wg_t_change : GoodIn wq_t_change wq_t_change := goodIn_sub (fun _ h => h) (by decide +kernel)
set_option maxRecDepth 20000 in
theorem wc_t_change_histTell_220 : GoodIn wq_t_change (wsV RX8 220 RX2 yX2_tell wq_histTell) := goodIn_app (goodIn_of _ (by decide +kernel)) (fun w h => ⟨List.mem_append_right _ (List.mem_append_right _ (h)), (wg_histTell w h).2⟩)
set_option maxHeartbeats 4000000 in
set_option maxRecDepth 100000 in
theorem c_t_change (l : Launch) (dC : Nat → ClassId) (dI : Nat → Nat → Nat) (h0 : Nat) (a : Nat → Nat) (nw : Int32) (b : Nat) (p0 : Int32) (p1 : Int32) (sz : Nat) : Met l yX8_change wq_t_change ({ frames := 1, cells := 0, slots := 0, locals := 24 }) (va_Pc [.ref h0, .int p0, .int p1] (fun U => U.heap.size = sz ∧ va_P (dC, dI) vwCl [(h0, .inr (9, [.ref (a 0), .ref (a 1), .ref (a 2), .ref (a 3), .ref (a 4), .ref (a 5), .ref (a 6), .long 0, .long 0, .int nw, .int 0, .int 0, .int 0, .int 0])), (a 5, .inr (3, [.ref b, .int 0]))] U.heap ∧ va_K (dC, dI) vwCl [] U ∧ va_D (fun _ => True) [(h0, .inr (9, [.ref (a 0), .ref (a 1), .ref (a 2), .ref (a 3), .ref (a 4), .ref (a 5), .ref (a 6), .long 0, .long 0, .int nw, .int 0, .int 0, .int 0, .int 0])), (a 5, .inr (3, [.ref b, .int 0]))] ∧ pw_N U)) (va_Qi (fun (r : Int32) (_ : Unit) => r = (-1)) (fun (_ : Unit) (t : State) => va_P (dC, dI) vwCl [(h0, .inr (9, [.ref (a 0), .ref (a 1), .ref (a 2), .ref (a 3), .ref (a 4), .ref (a 5), .ref (a 6), .long 0, .long 0, .int nw, .int 0, .int 0, .int 0, .int 0])), (a 5, .inr (3, [.ref b, .int 0]))] t.heap ∧ va_D (va_A [(h0, .inr (9, [.ref (a 0), .ref (a 1), .ref (a 2), .ref (a 3), .ref (a 4), .ref (a 5), .ref (a 6), .long 0, .long 0, .int nw, .int 0, .int 0, .int 0, .int 0])), (a 5, .inr (3, [.ref b, .int 0]))] sz) [(h0, .inr (9, [.ref (a 0), .ref (a 1), .ref (a 2), .ref (a 3), .ref (a 4), .ref (a 5), .ref (a 6), .long 0, .long 0, .int nw, .int 0, .int 0, .int 0, .int 0])), (a 5, .inr (3, [.ref b, .int 0]))]) (va_A [(h0, .inr (9, [.ref (a 0), .ref (a 1), .ref (a 2), .ref (a 3), .ref (a 4), .ref (a 5), .ref (a 6), .long 0, .long 0, .int nw, .int 0, .int 0, .int 0, .int 0])), (a 5, .inr (3, [.ref b, .int 0]))] sz)) 0 0 (va_A [(h0, .inr (9, [.ref (a 0), .ref (a 1), .ref (a 2), .ref (a 3), .ref (a 4), .ref (a 5), .ref (a 6), .long 0, .long 0, .int nw, .int 0, .int 0, .int 0, .int 0])), (a 5, .inr (3, [.ref b, .int 0]))] sz) := by
  refine Met.ofW (cc := cX8_change) (maxL := 3) (ret := (some .int)) (by decide) rfl ?_
  intro p e s m args below meth c s₁ B hml hv
  obtain ⟨rfl, hsz, hP, hK, hD0, hN⟩ := hv
  have hx := B.exec
  have hb := B.bytes
  have hr := B.returns
  have hts := atoms_spec (ws := wq_t_change) B.pre
  have hown : s.vm.findClass RX8 = some m.cls := findClass_of_methodNamed B.named
  have hlocks := B.notSynchronized
  subst hsz
  have hD := hD0.self (sz := s.heap.size)
  generalize hAe : va_A [(h0, .inr (9, [.ref (a 0), .ref (a 1), .ref (a 2), .ref (a 3), .ref (a 4), .ref (a 5), .ref (a 6), .long 0, .long 0, .int nw, .int 0, .int 0, .int 0, .int 0])), (a 5, .inr (3, [.ref b, .int 0]))] s.heap.size = A at hD ⊢
  have hA : ∀ q : Nat, s.heap.size ≤ q → A q := fun q h => by rw [← hAe]; exact Or.inr h
  have hS : va_S A s.heap s.heap [] := va_S.rf
  have hP : va_P (dC, dI) vwCl [(h0, .inr (9, [.ref (a 0), .ref (a 1), .ref (a 2), .ref (a 3), .ref (a 4), .ref (a 5), .ref (a 6), .long 0, .long 0, .int nw, .int 0, .int 0, .int 0, .int 0])), (a 5, .inr (3, [.ref b, .int 0]))] s.heap := hP
  have hl := lv_entry ([.ref h0, .int p0, .int p1]) (n := 3) (Nat.le_of_ble_eq_true rfl)
  rw [lg_entry_eq]
  generalize (lg_sl ([.ref h0, .int p0, .int p1]) ++ List.replicate (3 - (lg_sl ([.ref h0, .int p0, .int p1])).length) Slot.unset).toArray = ls at hl ⊢
  have hl : lv_has ls 3 [(0, .ref h0), (1, .int p0), (2, .int p1)] := hl
  refine lv_aload_n hx hb dX8_change_0 rfl (lv_at hl 0 rfl) ?_
  refine va_get (D := (dC, dI)) (ci := 9) (v := .ref (a 5)) (C := RX8) (T := TX8) (N := 14) hx hb hts in_t_change_X8 hown hK hP 0 rfl rfl 5 (by decide) (hts (.fieldLink RX8 49 "ServiceTree" "history" "LServiceTree$History;") (by decide +kernel)) (fun _ h9 => h9) rfl dX8_change_1 ?_
  refine lv_iload_n hx hb dX8_change_4 rfl (lv_at hl 1 rfl) ?_
  refine lv_iload_n hx hb dX8_change_5 rfl (lv_at hl 2 rfl) ?_
  have hPc := hP.sub (ws' := [(a 5, .inr (3, [.ref b, .int 0]))]) [1] rfl
  have hDc := hD.sub (ws' := [(a 5, .inr (3, [.ref b, .int 0]))]) [1] (by decide) rfl
  have hKc := hK.sub (tys' := []) [] rfl
  have hFc := va_free (wc := [(a 5, .inr (3, [.ref b, .int 0]))]) hD hS hA [1] rfl
  refine va_calli (va_runV (As := [.int p0, .int p1]) (rest := []) ⟨hx, hb, hml, hown, hts⟩ (c_histTell l dC dI (a 5) b p0 p1 s.heap.size) (cwV 2 hts wc_t_change_histTell_220 rfl rfl rfl (by decide +kernel) ⟨Nat.le_of_ble_eq_true rfl, Nat.le_of_ble_eq_true rfl⟩) ⟨fun a U g mk q => by obtain ⟨q0, q1, qP, qK, qD, qN⟩ := q; exact ⟨q0, q1, qP, va_K.moved (u := U) (U := U.calling g mk a) (Vm.Alike.refl U.vm) qK, qD, pw_N.same (u := U) (U := U.calling g mk a) rfl qN⟩, va_recv hKc hPc (ci := 3) (q0 := 0) rfl rfl, fun U hU hW => ⟨rfl, by rw [hU], by rw [hU]; exact hPc, va_K.moved hW.alike hKc, hDc.weaken (fun _ _ _ _ => trivial), pw_N.warm hW hN⟩⟩ rfl rfl hl.1 rfl (lv_room (Nat.le_of_ble_eq_true rfl)) dX8_change_6 ⟨Nat.le_of_ble_eq_true rfl, Nat.le_of_ble_eq_true rfl⟩) hS (fun q _ h => hFc q h) hFc (fun r_1 u t H1 locs ht hvm hw hB hz1 hk1 hS => ?_)
  obtain ⟨hP1, hD1⟩ := hB
  rw [ht] at hP1
  obtain ⟨hP, hD⟩ := va_join (wr := [(h0, .inr (9, [.ref (a 0), .ref (a 1), .ref (a 2), .ref (a 3), .ref (a 4), .ref (a 5), .ref (a 6), .long 0, .long 0, .int nw, .int 0, .int 0, .int 0, .int 0]))]) (w1 := [(a 5, .inr (3, [.ref b, .int 0]))]) hP hD [1] [0] rfl rfl (by decide) (by decide) hk1 hFc hP1 hD1
  generalize H1 = H at hP hS ⊢
  replace hP : va_P (dC, dI) vwCl [(h0, .inr (9, [.ref (a 0), .ref (a 1), .ref (a 2), .ref (a 3), .ref (a 4), .ref (a 5), .ref (a 6), .long 0, .long 0, .int nw, .int 0, .int 0, .int 0, .int 0])), (a 5, .inr (3, [.ref b, .int 0]))] H := hP
  replace hD : va_D A [(h0, .inr (9, [.ref (a 0), .ref (a 1), .ref (a 2), .ref (a 3), .ref (a 4), .ref (a 5), .ref (a 6), .long 0, .long 0, .int nw, .int 0, .int 0, .int 0, .int 0])), (a 5, .inr (3, [.ref b, .int 0]))] := hD
  try dsimp only at hw
  subst hw
  have hP9 := hP.sub (ws' := [(h0, .inr (9, [.ref (a 0), .ref (a 1), .ref (a 2), .ref (a 3), .ref (a 4), .ref (a 5), .ref (a 6), .long 0, .long 0, .int nw, .int 0, .int 0, .int 0, .int 0])), (a 5, .inr (3, [.ref b, .int 0]))]) [0, 1] rfl
  have hD9 := hD.sub (ws' := [(h0, .inr (9, [.ref (a 0), .ref (a 1), .ref (a 2), .ref (a 3), .ref (a 4), .ref (a 5), .ref (a 6), .long 0, .long 0, .int nw, .int 0, .int 0, .int 0, .int 0])), (a 5, .inr (3, [.ref b, .int 0]))]) [0, 1] (by decide) rfl
  exact W.iret (v := (-1)) hx hb hr (fun t ht hW => ⟨⟨(-1), (), rfl, rfl, by rw [ht]; exact hP9, hD9⟩, hS.F ht⟩) hS.2.2 dX8_change_9
def wq_left : List Cond := [.code yX3_left cX3_left 1 (some .long), .fieldLink RX3 15 "ServiceTree$Jobs" "starts" "J", .fieldLink RX3 19 "ServiceTree$Jobs" "stops" "J"] ++ (wsX30)
theorem in_left_X3 : ∀ w ∈ wsX30, w ∈ wq_left := fun _ h => List.mem_append_right _ (h)
set_option maxRecDepth 20000 in
theorem wi_left : ∀ w ∈ wq_left, w ∈ lw_tbl := List.forall_mem_append.mpr ⟨(by decide +kernel), inKX3⟩
set_option maxRecDepth 20000 in
theorem wg_left : GoodIn wq_left wq_left := goodIn_sub (fun _ h => h) (by decide +kernel)
set_option maxHeartbeats 4000000 in
set_option maxRecDepth 100000 in
theorem c_left (l : Launch) (dC : Nat → ClassId) (dI : Nat → Nat → Nat) (h0 : Nat) (b : Nat) (sz : Nat) : Met l yX3_left wq_left ({ frames := 0, cells := 0, slots := 0, locals := 0 }) (va_Pc [.ref h0] (fun U => U.heap.size = sz ∧ va_P (dC, dI) vwCl [(h0, .inr (4, [.ref b, .long 0, .long 0, .long 0]))] U.heap ∧ va_K (dC, dI) vwCl [] U ∧ va_D (fun _ => True) [(h0, .inr (4, [.ref b, .long 0, .long 0, .long 0]))] ∧ pw_N U)) (va_Ql (fun (r : Int64) (_ : Unit) => r = 0) (fun (_ : Unit) (t : State) => va_P (dC, dI) vwCl [(h0, .inr (4, [.ref b, .long 0, .long 0, .long 0]))] t.heap ∧ va_D (va_A [(h0, .inr (4, [.ref b, .long 0, .long 0, .long 0]))] sz) [(h0, .inr (4, [.ref b, .long 0, .long 0, .long 0]))]) (va_A [(h0, .inr (4, [.ref b, .long 0, .long 0, .long 0]))] sz)) 0 0 (va_A [(h0, .inr (4, [.ref b, .long 0, .long 0, .long 0]))] sz) := by
  refine Met.ofW (cc := cX3_left) (maxL := 1) (ret := (some .long)) (by decide) rfl ?_
  intro p e s m args below meth c s₁ B hml hv
  obtain ⟨rfl, hsz, hP, hK, hD0, hN⟩ := hv
  have hx := B.exec
  have hb := B.bytes
  have hr := B.returns
  have hts := atoms_spec (ws := wq_left) B.pre
  have hown : s.vm.findClass RX3 = some m.cls := findClass_of_methodNamed B.named
  have hlocks := B.notSynchronized
  subst hsz
  have hD := hD0.self (sz := s.heap.size)
  generalize hAe : va_A [(h0, .inr (4, [.ref b, .long 0, .long 0, .long 0]))] s.heap.size = A at hD ⊢
  have hA : ∀ q : Nat, s.heap.size ≤ q → A q := fun q h => by rw [← hAe]; exact Or.inr h
  have hS : va_S A s.heap s.heap [] := va_S.rf
  have hP : va_P (dC, dI) vwCl [(h0, .inr (4, [.ref b, .long 0, .long 0, .long 0]))] s.heap := hP
  have hl := lv_entry ([.ref h0]) (n := 1) (Nat.le_of_ble_eq_true rfl)
  rw [lg_entry_eq]
  generalize (lg_sl ([.ref h0]) ++ List.replicate (1 - (lg_sl ([.ref h0])).length) Slot.unset).toArray = ls at hl ⊢
  have hl : lv_has ls 1 [(0, .ref h0)] := hl
  refine lv_aload_n hx hb dX3_left_0 rfl (lv_at hl 0 rfl) ?_
  refine va_get (D := (dC, dI)) (ci := 4) (v := .long 0) (C := RX3) (T := TX3) (N := 4) hx hb hts in_left_X3 hown hK hP 0 rfl rfl 1 (by decide) (hts (.fieldLink RX3 15 "ServiceTree$Jobs" "starts" "J") (by decide +kernel)) (fun _ h9 => h9) rfl dX3_left_1 ?_
  refine lv_aload_n hx hb dX3_left_4 rfl (lv_at hl 0 rfl) ?_
  refine va_get (D := (dC, dI)) (ci := 4) (v := .long 0) (C := RX3) (T := TX3) (N := 4) hx hb hts in_left_X3 hown hK hP 0 rfl rfl 2 (by decide) (hts (.fieldLink RX3 19 "ServiceTree$Jobs" "stops" "J") (by decide +kernel)) (fun _ h9 => h9) rfl dX3_left_5 ?_
  refine lv_lor hx hb dX3_left_8 ?_
  refine lv_topl (fun x_1 ex_1 => ?_)
  obtain rfl : x_1 = 0 := ex_1.trans (by decide)
  have hP9 := hP.sub (ws' := [(h0, .inr (4, [.ref b, .long 0, .long 0, .long 0]))]) [0] rfl
  have hD9 := hD.sub (ws' := [(h0, .inr (4, [.ref b, .long 0, .long 0, .long 0]))]) [0] (by decide) rfl
  exact W.lret (v := 0) hx hb hr (fun t ht hW => ⟨⟨0, (), rfl, rfl, by rw [ht]; exact hP9, hD9⟩, hS.F ht⟩) hS.2.2 dX3_left_9
def wq_bitCount0 : List Cond := [.code yJ13_bitCount_95d88 cJ13_bitCount_95d88 2 (some .int), .constantLong RJ13 314 (6148914691236517205), .constantLong RJ13 316 (3689348814741910323), .constantLong RJ13 318 (1085102592571150095)]
set_option maxRecDepth 20000 in
theorem wi_bitCount0 : ∀ w ∈ wq_bitCount0, w ∈ lw_tbl := (by decide +kernel)
set_option maxRecDepth 20000 in
theorem wg_bitCount0 : GoodIn wq_bitCount0 wq_bitCount0 := goodIn_sub (fun _ h => h) (by decide +kernel)
set_option maxHeartbeats 4000000 in
set_option maxRecDepth 100000 in
theorem c_bitCount0 (l : Launch) (dC : Nat → ClassId) (dI : Nat → Nat → Nat)  (sz : Nat) : Met l yJ13_bitCount_95d88 wq_bitCount0 ({ frames := 0, cells := 0, slots := 0, locals := 0 }) (va_Pc [.long 0] (fun U => U.heap.size = sz ∧ va_P (dC, dI) vwCl [] U.heap ∧ va_K (dC, dI) vwCl [] U ∧ va_D (fun _ => True) [] ∧ pw_N U)) (va_Qi (fun (r : Int32) (_ : Unit) => r = 0) (fun (_ : Unit) (t : State) => va_P (dC, dI) vwCl [] t.heap ∧ va_D (va_A [] sz) []) (va_A [] sz)) 0 0 (va_A [] sz) := by
  refine Met.ofW (cc := cJ13_bitCount_95d88) (maxL := 2) (ret := (some .int)) (by decide) rfl ?_
  intro p e s m args below meth c s₁ B hml hv
  obtain ⟨rfl, hsz, hP, hK, hD0, hN⟩ := hv
  have hx := B.exec
  have hb := B.bytes
  have hr := B.returns
  have hts := atoms_spec (ws := wq_bitCount0) B.pre
  have hown : s.vm.findClass RJ13 = some m.cls := findClass_of_methodNamed B.named
  have hlocks := B.notSynchronized
  subst hsz
  have hD := hD0.self (sz := s.heap.size)
  generalize hAe : va_A [] s.heap.size = A at hD ⊢
  have hA : ∀ q : Nat, s.heap.size ≤ q → A q := fun q h => by rw [← hAe]; exact Or.inr h
  have hS : va_S A s.heap s.heap [] := va_S.rf
  have hP : va_P (dC, dI) vwCl [] s.heap := hP
  have hl := lv_entry ([.long 0]) (n := 2) (Nat.le_of_ble_eq_true rfl)
  rw [lg_entry_eq]
  generalize (lg_sl ([.long 0]) ++ List.replicate (2 - (lg_sl ([.long 0])).length) Slot.unset).toArray = ls at hl ⊢
  have hl : lv_has ls 2 [(0, .long 0)] := hl
  refine lv_lload_n hx hb dJ13_bitCount_95d88_0 rfl (lv_at hl 0 rfl) ?_
  refine lv_lload_n hx hb dJ13_bitCount_95d88_1 rfl (lv_at hl 0 rfl) ?_
  refine lv_iconst (v := 1) hx hb dJ13_bitCount_95d88_2 (by decide) ?_
  refine lv_lushr (v := 0) hx hb dJ13_bitCount_95d88_3 (by decide) ?_
  refine lv_ldc2 (v := 6148914691236517205) hx hb hown (hts (.constantLong RJ13 314 (6148914691236517205)) (by decide +kernel)) dJ13_bitCount_95d88_4 ?_
  refine lv_land hx hb dJ13_bitCount_95d88_7 ?_
  refine lv_topl (fun x_1 ex_1 => ?_)
  obtain rfl : x_1 = 0 := ex_1.trans (by decide)
  refine lv_lsub hx hb dJ13_bitCount_95d88_8 ?_
  refine lv_topl (fun x_2 ex_2 => ?_)
  obtain rfl : x_2 = 0 := ex_2.trans (by decide)
  refine lv_lstore_n (lv' := [(0, .long 0)]) hx hb dJ13_bitCount_95d88_9 rfl hl (by decide) rfl (fun ls hl => ?_)
  refine lv_lload_n hx hb dJ13_bitCount_95d88_10 rfl (lv_at hl 0 rfl) ?_
  refine lv_ldc2 (v := 3689348814741910323) hx hb hown (hts (.constantLong RJ13 316 (3689348814741910323)) (by decide +kernel)) dJ13_bitCount_95d88_11 ?_
  refine lv_land hx hb dJ13_bitCount_95d88_14 ?_
  refine lv_topl (fun x_3 ex_3 => ?_)
  obtain rfl : x_3 = 0 := ex_3.trans (by decide)
  refine lv_lload_n hx hb dJ13_bitCount_95d88_15 rfl (lv_at hl 0 rfl) ?_
  refine lv_iconst (v := 2) hx hb dJ13_bitCount_95d88_16 (by decide) ?_
  refine lv_lushr (v := 0) hx hb dJ13_bitCount_95d88_17 (by decide) ?_
  refine lv_ldc2 (v := 3689348814741910323) hx hb hown (hts (.constantLong RJ13 316 (3689348814741910323)) (by decide +kernel)) dJ13_bitCount_95d88_18 ?_
  refine lv_land hx hb dJ13_bitCount_95d88_21 ?_
  refine lv_topl (fun x_4 ex_4 => ?_)
  obtain rfl : x_4 = 0 := ex_4.trans (by decide)
  refine lv_ladd hx hb dJ13_bitCount_95d88_22 ?_
  refine lv_topl (fun x_5 ex_5 => ?_)
  obtain rfl : x_5 = 0 := ex_5.trans (by decide)
  refine lv_lstore_n (lv' := [(0, .long 0)]) hx hb dJ13_bitCount_95d88_23 rfl hl (by decide) rfl (fun ls hl => ?_)
  refine lv_lload_n hx hb dJ13_bitCount_95d88_24 rfl (lv_at hl 0 rfl) ?_
  refine lv_lload_n hx hb dJ13_bitCount_95d88_25 rfl (lv_at hl 0 rfl) ?_
  refine lv_iconst (v := 4) hx hb dJ13_bitCount_95d88_26 (by decide) ?_
  refine lv_lushr (v := 0) hx hb dJ13_bitCount_95d88_27 (by decide) ?_
  refine lv_ladd hx hb dJ13_bitCount_95d88_28 ?_
  refine lv_topl (fun x_6 ex_6 => ?_)
  obtain rfl : x_6 = 0 := ex_6.trans (by decide)
  refine lv_ldc2 (v := 1085102592571150095) hx hb hown (hts (.constantLong RJ13 318 (1085102592571150095)) (by decide +kernel)) dJ13_bitCount_95d88_29 ?_
  refine lv_land hx hb dJ13_bitCount_95d88_32 ?_
  refine lv_topl (fun x_7 ex_7 => ?_)
  obtain rfl : x_7 = 0 := ex_7.trans (by decide)
  refine lv_lstore_n (lv' := [(0, .long 0)]) hx hb dJ13_bitCount_95d88_33 rfl hl (by decide) rfl (fun ls hl => ?_)
  refine lv_lload_n hx hb dJ13_bitCount_95d88_34 rfl (lv_at hl 0 rfl) ?_
  refine lv_lload_n hx hb dJ13_bitCount_95d88_35 rfl (lv_at hl 0 rfl) ?_
  refine lv_bipush (v := 8) hx hb dJ13_bitCount_95d88_36 (by decide) ?_
  refine lv_lushr (v := 0) hx hb dJ13_bitCount_95d88_38 (by decide) ?_
  refine lv_ladd hx hb dJ13_bitCount_95d88_39 ?_
  refine lv_topl (fun x_8 ex_8 => ?_)
  obtain rfl : x_8 = 0 := ex_8.trans (by decide)
  refine lv_lstore_n (lv' := [(0, .long 0)]) hx hb dJ13_bitCount_95d88_40 rfl hl (by decide) rfl (fun ls hl => ?_)
  refine lv_lload_n hx hb dJ13_bitCount_95d88_41 rfl (lv_at hl 0 rfl) ?_
  refine lv_lload_n hx hb dJ13_bitCount_95d88_42 rfl (lv_at hl 0 rfl) ?_
  refine lv_bipush (v := 16) hx hb dJ13_bitCount_95d88_43 (by decide) ?_
  refine lv_lushr (v := 0) hx hb dJ13_bitCount_95d88_45 (by decide) ?_
  refine lv_ladd hx hb dJ13_bitCount_95d88_46 ?_
  refine lv_topl (fun x_9 ex_9 => ?_)
  obtain rfl : x_9 = 0 := ex_9.trans (by decide)
  refine lv_lstore_n (lv' := [(0, .long 0)]) hx hb dJ13_bitCount_95d88_47 rfl hl (by decide) rfl (fun ls hl => ?_)
  refine lv_lload_n hx hb dJ13_bitCount_95d88_48 rfl (lv_at hl 0 rfl) ?_
  refine lv_lload_n hx hb dJ13_bitCount_95d88_49 rfl (lv_at hl 0 rfl) ?_
  refine lv_bipush (v := 32) hx hb dJ13_bitCount_95d88_50 (by decide) ?_
  refine lv_lushr (v := 0) hx hb dJ13_bitCount_95d88_52 (by decide) ?_
  refine lv_ladd hx hb dJ13_bitCount_95d88_53 ?_
  refine lv_topl (fun x_10 ex_10 => ?_)
  obtain rfl : x_10 = 0 := ex_10.trans (by decide)
  refine lv_lstore_n (lv' := [(0, .long 0)]) hx hb dJ13_bitCount_95d88_54 rfl hl (by decide) rfl (fun ls hl => ?_)
  refine lv_lload_n hx hb dJ13_bitCount_95d88_55 rfl (lv_at hl 0 rfl) ?_
  refine lv_l2i (v := 0) hx hb dJ13_bitCount_95d88_56 (by decide) ?_
  refine lv_bipush (v := 127) hx hb dJ13_bitCount_95d88_57 (by decide) ?_
  refine lv_iand hx hb dJ13_bitCount_95d88_59 ?_
  refine lv_topi (fun x_11 ex_11 => ?_)
  obtain rfl : x_11 = 0 := ex_11.trans (by decide)
  have hP9 := hP.sub (ws' := []) [] rfl
  have hD9 := hD.sub (ws' := []) [] (by decide) rfl
  exact W.iret (v := 0) hx hb hr (fun t ht hW => ⟨⟨0, (), rfl, rfl, by rw [ht]; exact hP9, hD9⟩, hS.F ht⟩) hS.2.2 dJ13_bitCount_95d88_60
def wq_t_in : List Cond := [.code yX8_in cX8_in 2 (some .int), .fieldLink RX8 53 "ServiceTree" "inState" "[J", .methodLink RX8 57 yX8_within, .static yX8_within, .initialized RX8, .methodLink RX8 189 yJ13_bitCount_95d88, .static yJ13_bitCount_95d88, .initialized RJ13] ++ (wsX80 ++ (wq_within ++ (wq_bitCount0)))
theorem in_t_in_X8 : ∀ w ∈ wsX80, w ∈ wq_t_in := fun _ h => List.mem_append_right _ (List.mem_append_left _ (h))
set_option maxRecDepth 20000 in
theorem wi_t_in : ∀ w ∈ wq_t_in, w ∈ lw_tbl := List.forall_mem_append.mpr ⟨(by decide +kernel), List.forall_mem_append.mpr ⟨inKX8, List.forall_mem_append.mpr ⟨wi_within, wi_bitCount0⟩⟩⟩
set_option maxRecDepth 20000 in
theorem wg_t_in : GoodIn wq_t_in wq_t_in := goodIn_sub (fun _ h => h) (by decide +kernel)
set_option maxRecDepth 20000 in
theorem wc_t_in_within_57 : GoodIn wq_t_in (va_wsS RX8 57 yX8_within wq_within) := goodIn_app (goodIn_of _ (by decide +kernel)) (fun w h => ⟨List.mem_append_right _ (List.mem_append_right _ (List.mem_append_left _ (h))), (wg_within w h).2⟩)
set_option maxRecDepth 20000 in
theorem wc_t_in_bitCount0_189 : GoodIn wq_t_in (va_wsS RX8 189 yJ13_bitCount_95d88 wq_bitCount0) := goodIn_app (goodIn_of _ (by decide +kernel)) (fun w h => ⟨List.mem_append_right _ (List.mem_append_right _ (List.mem_append_right _ (h))), (wg_bitCount0 w h).2⟩)
set_option maxHeartbeats 4000000 in
set_option maxRecDepth 100000 in
theorem c_t_in (l : Launch) (dC : Nat → ClassId) (dI : Nat → Nat → Nat) (h0 : Nat) (a : Nat → Nat) (nw : Int32) (cI : ClassId) (p0 : Int32) (sz : Nat) : Met l yX8_in wq_t_in ({ frames := 1, cells := 0, slots := 0, locals := 22 }) (va_Pc [.ref h0, .int p0] (fun U => U.heap.size = sz ∧ va_P (dC, dI) vwCl [(h0, .inr (9, [.ref (a 0), .ref (a 1), .ref (a 2), .ref (a 3), .ref (a 4), .ref (a 5), .ref (a 6), .long 0, .long 0, .int nw, .int 0, .int 0, .int 0, .int 0])), (a 6, .inl (cI, 6, .inr (.inl (fun _ => 0))))] U.heap ∧ va_K (dC, dI) vwCl [(cI, .long)] U ∧ va_D (fun _ => True) [(h0, .inr (9, [.ref (a 0), .ref (a 1), .ref (a 2), .ref (a 3), .ref (a 4), .ref (a 5), .ref (a 6), .long 0, .long 0, .int nw, .int 0, .int 0, .int 0, .int 0])), (a 6, .inl (cI, 6, .inr (.inl (fun _ => 0))))] ∧ pw_N U)) (va_Qi (fun (r : Int32) (_ : Unit) => r = if 0 ≤ p0 ∧ p0 ≤ 5 then 0 else (-1)) (fun (_ : Unit) (t : State) => va_P (dC, dI) vwCl [(h0, .inr (9, [.ref (a 0), .ref (a 1), .ref (a 2), .ref (a 3), .ref (a 4), .ref (a 5), .ref (a 6), .long 0, .long 0, .int nw, .int 0, .int 0, .int 0, .int 0])), (a 6, .inl (cI, 6, .inr (.inl (fun _ => 0))))] t.heap ∧ va_D (va_A [(h0, .inr (9, [.ref (a 0), .ref (a 1), .ref (a 2), .ref (a 3), .ref (a 4), .ref (a 5), .ref (a 6), .long 0, .long 0, .int nw, .int 0, .int 0, .int 0, .int 0])), (a 6, .inl (cI, 6, .inr (.inl (fun _ => 0))))] sz) [(h0, .inr (9, [.ref (a 0), .ref (a 1), .ref (a 2), .ref (a 3), .ref (a 4), .ref (a 5), .ref (a 6), .long 0, .long 0, .int nw, .int 0, .int 0, .int 0, .int 0])), (a 6, .inl (cI, 6, .inr (.inl (fun _ => 0))))]) (va_A [(h0, .inr (9, [.ref (a 0), .ref (a 1), .ref (a 2), .ref (a 3), .ref (a 4), .ref (a 5), .ref (a 6), .long 0, .long 0, .int nw, .int 0, .int 0, .int 0, .int 0])), (a 6, .inl (cI, 6, .inr (.inl (fun _ => 0))))] sz)) 0 0 (va_A [(h0, .inr (9, [.ref (a 0), .ref (a 1), .ref (a 2), .ref (a 3), .ref (a 4), .ref (a 5), .ref (a 6), .long 0, .long 0, .int nw, .int 0, .int 0, .int 0, .int 0])), (a 6, .inl (cI, 6, .inr (.inl (fun _ => 0))))] sz) := by
  refine Met.ofW (cc := cX8_in) (maxL := 2) (ret := (some .int)) (by decide) rfl ?_
  intro p e s m args below meth c s₁ B hml hv
  obtain ⟨rfl, hsz, hP, hK, hD0, hN⟩ := hv
  have hx := B.exec
  have hb := B.bytes
  have hr := B.returns
  have hts := atoms_spec (ws := wq_t_in) B.pre
  have hown : s.vm.findClass RX8 = some m.cls := findClass_of_methodNamed B.named
  have hlocks := B.notSynchronized
  subst hsz
  have hD := hD0.self (sz := s.heap.size)
  generalize hAe : va_A [(h0, .inr (9, [.ref (a 0), .ref (a 1), .ref (a 2), .ref (a 3), .ref (a 4), .ref (a 5), .ref (a 6), .long 0, .long 0, .int nw, .int 0, .int 0, .int 0, .int 0])), (a 6, .inl (cI, 6, .inr (.inl (fun _ => 0))))] s.heap.size = A at hD ⊢
  have hA : ∀ q : Nat, s.heap.size ≤ q → A q := fun q h => by rw [← hAe]; exact Or.inr h
  have hS : va_S A s.heap s.heap [] := va_S.rf
  have hP : va_P (dC, dI) vwCl [(h0, .inr (9, [.ref (a 0), .ref (a 1), .ref (a 2), .ref (a 3), .ref (a 4), .ref (a 5), .ref (a 6), .long 0, .long 0, .int nw, .int 0, .int 0, .int 0, .int 0])), (a 6, .inl (cI, 6, .inr (.inl (fun _ => 0))))] s.heap := hP
  have hl := lv_entry ([.ref h0, .int p0]) (n := 2) (Nat.le_of_ble_eq_true rfl)
  rw [lg_entry_eq]
  generalize (lg_sl ([.ref h0, .int p0]) ++ List.replicate (2 - (lg_sl ([.ref h0, .int p0])).length) Slot.unset).toArray = ls at hl ⊢
  have hl : lv_has ls 2 [(0, .ref h0), (1, .int p0)] := hl
  refine lv_iload_n hx hb dX8_in_0 rfl (lv_at hl 1 rfl) ?_
  refine lv_iconst (v := 0) hx hb dX8_in_1 (by decide) ?_
  refine lv_iconst (v := 5) hx hb dX8_in_2 (by decide) ?_
  have hPc := hP.sub (ws' := []) [] rfl
  have hDc := hD.sub (ws' := []) [] (by decide) rfl
  have hKc := hK.sub (tys' := []) [] rfl
  have hFc := va_free (wc := []) hD hS hA [] rfl
  refine va_calli (va_runS (As := [.int p0, .int 0, .int 5]) (rest := []) ⟨hx, hb, hml, hown, hts⟩ (c_within l dC dI p0 0 5 s.heap.size) (va_cwS 3 hts wc_t_in_within_57 rfl rfl rfl (by decide +kernel) ⟨Nat.le_of_ble_eq_true rfl, Nat.le_of_ble_eq_true rfl⟩) ⟨fun a U g mk q => by obtain ⟨q0, q1, qP, qK, qD, qN⟩ := q; exact ⟨q0, q1, qP, va_K.moved (u := U) (U := U.calling g mk a) (Vm.Alike.refl U.vm) qK, qD, pw_N.same (u := U) (U := U.calling g mk a) rfl qN⟩, fun U hU hW => ⟨rfl, by rw [hU], by rw [hU]; exact hPc, va_K.moved hW.alike hKc, hDc.weaken (fun _ _ _ _ => trivial), pw_N.warm hW hN⟩⟩ rfl rfl hl.1 rfl (lv_room (Nat.le_of_ble_eq_true rfl)) dX8_in_3 ⟨Nat.le_of_ble_eq_true rfl, Nat.le_of_ble_eq_true rfl⟩) hS (fun q _ h => hFc q h) hFc (fun r_1 u t H1 locs ht hvm hw hB hz1 hk1 hS => ?_)
  obtain ⟨hP1, hD1⟩ := hB
  rw [ht] at hP1
  obtain ⟨hP, hD⟩ := va_join (wr := [(h0, .inr (9, [.ref (a 0), .ref (a 1), .ref (a 2), .ref (a 3), .ref (a 4), .ref (a 5), .ref (a 6), .long 0, .long 0, .int nw, .int 0, .int 0, .int 0, .int 0])), (a 6, .inl (cI, 6, .inr (.inl (fun _ => 0))))]) (w1 := []) hP hD [] [0, 1] rfl rfl (by decide) (by decide) hk1 hFc hP1 hD1
  generalize H1 = H at hP hS ⊢
  replace hP : va_P (dC, dI) vwCl [(h0, .inr (9, [.ref (a 0), .ref (a 1), .ref (a 2), .ref (a 3), .ref (a 4), .ref (a 5), .ref (a 6), .long 0, .long 0, .int nw, .int 0, .int 0, .int 0, .int 0])), (a 6, .inl (cI, 6, .inr (.inl (fun _ => 0))))] H := hP
  replace hD : va_D A [(h0, .inr (9, [.ref (a 0), .ref (a 1), .ref (a 2), .ref (a 3), .ref (a 4), .ref (a 5), .ref (a 6), .long 0, .long 0, .int nw, .int 0, .int 0, .int 0, .int 0])), (a 6, .inl (cI, 6, .inr (.inl (fun _ => 0))))] := hD
  try dsimp only at hw
  rcases Classical.em (0 ≤ p0 ∧ p0 ≤ 5) with h_2 | h_2
  · obtain rfl : r_1 = 1 := hw.trans (if_pos h_2)
    refine lv_if_ne (tgt := 11) hx hb dX8_in_6 (by decide) (fun _ => ?_) (fun c9 => absurd c9 (by decide))
    refine lv_aload_n hx hb dX8_in_11 rfl (lv_at hl 0 rfl) ?_
    refine va_get (D := (dC, dI)) (ci := 9) (v := .ref (a 6)) (C := RX8) (T := TX8) (N := 14) hx hb hts in_t_in_X8 hown hK hP 0 rfl rfl 6 (by decide) (hts (.fieldLink RX8 53 "ServiceTree" "inState" "[J") (by decide +kernel)) (fun _ h9 => h9) rfl dX8_in_12 ?_
    refine lv_iload_n hx hb dX8_in_15 rfl (lv_at hl 1 rfl) ?_
    refine va_lald hx hb hK hP 1 0 rfl rfl (vp_in_iff.mpr (by have k0 := h_2; simp only [p1_le, p1_lt, p1_eq, p1_m6, p1_m1, p1_0, p1_1, p1_2, p1_3, p1_4, p1_5, p1_6, p1_7, p1_8, p1_9, p1_10, p1_11, p1_12, p1_13, p1_14, p1_15, p1_16, p1_17, p1_18, p1_19, p1_20, p1_40, p1_50, p1_200, p1_1000] at k0 ⊢; omega)) dX8_in_16 ?_
    refine lv_topl (fun x_3 ex_3 => ?_)
    obtain rfl : x_3 = 0 := ex_3
    have hPc := hP.sub (ws' := []) [] rfl
    have hDc := hD.sub (ws' := []) [] (by decide) rfl
    have hKc := hK.sub (tys' := []) [] rfl
    have hFc := va_free (wc := []) hD hS hA [] rfl
    refine va_calli (va_runS (As := [.long 0]) (rest := []) ⟨hx, hb, hml, hown, hts⟩ (c_bitCount0 l dC dI  H.size) (va_cwS 1 hts wc_t_in_bitCount0_189 rfl rfl rfl (by decide +kernel) ⟨Nat.le_of_ble_eq_true rfl, Nat.le_of_ble_eq_true rfl⟩) ⟨fun a U g mk q => by obtain ⟨q0, q1, qP, qK, qD, qN⟩ := q; exact ⟨q0, q1, qP, va_K.moved (u := U) (U := U.calling g mk a) (Vm.Alike.refl U.vm) qK, qD, pw_N.same (u := U) (U := U.calling g mk a) rfl qN⟩, fun U hU hW => ⟨rfl, by rw [hU], by rw [hU]; exact hPc, va_K.moved hW.alike hKc, hDc.weaken (fun _ _ _ _ => trivial), pw_N.warm hW hN⟩⟩ rfl rfl hl.1 rfl (lv_room (Nat.le_of_ble_eq_true rfl)) dX8_in_17 ⟨Nat.le_of_ble_eq_true rfl, Nat.le_of_ble_eq_true rfl⟩) hS (fun q _ h => hFc q h) hFc (fun r_4 u t H1 locs ht hvm hw hB hz1 hk1 hS => ?_)
    obtain ⟨hP1, hD1⟩ := hB
    rw [ht] at hP1
    obtain ⟨hP, hD⟩ := va_join (wr := [(h0, .inr (9, [.ref (a 0), .ref (a 1), .ref (a 2), .ref (a 3), .ref (a 4), .ref (a 5), .ref (a 6), .long 0, .long 0, .int nw, .int 0, .int 0, .int 0, .int 0])), (a 6, .inl (cI, 6, .inr (.inl (fun _ => 0))))]) (w1 := []) hP hD [] [0, 1] rfl rfl (by decide) (by decide) hk1 hFc hP1 hD1
    generalize H1 = H at hP hS ⊢
    replace hP : va_P (dC, dI) vwCl [(h0, .inr (9, [.ref (a 0), .ref (a 1), .ref (a 2), .ref (a 3), .ref (a 4), .ref (a 5), .ref (a 6), .long 0, .long 0, .int nw, .int 0, .int 0, .int 0, .int 0])), (a 6, .inl (cI, 6, .inr (.inl (fun _ => 0))))] H := hP
    replace hD : va_D A [(h0, .inr (9, [.ref (a 0), .ref (a 1), .ref (a 2), .ref (a 3), .ref (a 4), .ref (a 5), .ref (a 6), .long 0, .long 0, .int nw, .int 0, .int 0, .int 0, .int 0])), (a 6, .inl (cI, 6, .inr (.inl (fun _ => 0))))] := hD
    try dsimp only at hw
    subst hw
    have hP9 := hP.sub (ws' := [(h0, .inr (9, [.ref (a 0), .ref (a 1), .ref (a 2), .ref (a 3), .ref (a 4), .ref (a 5), .ref (a 6), .long 0, .long 0, .int nw, .int 0, .int 0, .int 0, .int 0])), (a 6, .inl (cI, 6, .inr (.inl (fun _ => 0))))]) [0, 1] rfl
    have hD9 := hD.sub (ws' := [(h0, .inr (9, [.ref (a 0), .ref (a 1), .ref (a 2), .ref (a 3), .ref (a 4), .ref (a 5), .ref (a 6), .long 0, .long 0, .int nw, .int 0, .int 0, .int 0, .int 0])), (a 6, .inl (cI, 6, .inr (.inl (fun _ => 0))))]) [0, 1] (by decide) rfl
    exact W.iret (v := 0) hx hb hr (fun t ht hW => ⟨⟨0, (), rfl, (if_pos (by have k0 := h_2; simp only [p1_le, p1_lt, p1_eq, p1_m6, p1_m1, p1_0, p1_1, p1_2, p1_3, p1_4, p1_5, p1_6, p1_7, p1_8, p1_9, p1_10, p1_11, p1_12, p1_13, p1_14, p1_15, p1_16, p1_17, p1_18, p1_19, p1_20, p1_40, p1_50, p1_200, p1_1000] at k0 ⊢; omega)).symm, by rw [ht]; exact hP9, hD9⟩, hS.F ht⟩) hS.2.2 dX8_in_20
  · obtain rfl : r_1 = 0 := hw.trans (if_neg h_2)
    refine lv_if_ne (tgt := 11) hx hb dX8_in_6 (by decide) (fun c9 => absurd (by decide) c9) (fun _ => ?_)
    refine lv_iconst (v := (-1)) hx hb dX8_in_9 (by decide) ?_
    have hP9 := hP.sub (ws' := [(h0, .inr (9, [.ref (a 0), .ref (a 1), .ref (a 2), .ref (a 3), .ref (a 4), .ref (a 5), .ref (a 6), .long 0, .long 0, .int nw, .int 0, .int 0, .int 0, .int 0])), (a 6, .inl (cI, 6, .inr (.inl (fun _ => 0))))]) [0, 1] rfl
    have hD9 := hD.sub (ws' := [(h0, .inr (9, [.ref (a 0), .ref (a 1), .ref (a 2), .ref (a 3), .ref (a 4), .ref (a 5), .ref (a 6), .long 0, .long 0, .int nw, .int 0, .int 0, .int 0, .int 0])), (a 6, .inl (cI, 6, .inr (.inl (fun _ => 0))))]) [0, 1] (by decide) rfl
    exact W.iret (v := (-1)) hx hb hr (fun t ht hW => ⟨⟨(-1), (), rfl, (if_neg (by have k0 := h_2; simp only [p1_le, p1_lt, p1_eq, p1_m6, p1_m1, p1_0, p1_1, p1_2, p1_3, p1_4, p1_5, p1_6, p1_7, p1_8, p1_9, p1_10, p1_11, p1_12, p1_13, p1_14, p1_15, p1_16, p1_17, p1_18, p1_19, p1_20, p1_40, p1_50, p1_200, p1_1000] at k0 ⊢; omega)).symm, by rw [ht]; exact hP9, hD9⟩, hS.F ht⟩) hS.2.2 dX8_in_10
def wq_t_count : List Cond := [.code yX8_count cX8_count 2 (some .int), .fieldLink RX8 10 "ServiceTree" "services" "Ljava/util/ArrayList;", .fieldLink RX8 19 "ServiceTree" "relations" "LServiceTree$Relations;", .fieldLink RX8 35 "ServiceTree" "jobs" "LServiceTree$Jobs;", .fieldLink RX8 67 "ServiceTree" "now" "I", .fieldLink RX8 152 "ServiceTree" "lettersCome" "I", .fieldLink RX8 195 "ServiceTree" "lettersRead" "I", .methodLink RX8 61 yJx4a65c_size_8abf5, .instanceMethod yJx4a65c_size_8abf5, .selects RJx4a65c yJx4a65c_size_8abf5 yJx4a65c_size_8abf5, .initialized RJx4a65c, .methodLink RX8 110 yX3_left, .instanceMethod yX3_left, .selects RX3 yX3_left yX3_left, .initialized RX3, .methodLink RX8 189 yJ13_bitCount_95d88, .static yJ13_bitCount_95d88, .initialized RJ13] ++ (wsX50 ++ (wsX80 ++ (wq_size ++ (wq_left ++ (wq_bitCount0)))))
theorem in_t_count_X5 : ∀ w ∈ wsX50, w ∈ wq_t_count := fun _ h => List.mem_append_right _ (List.mem_append_left _ (h))
theorem in_t_count_X8 : ∀ w ∈ wsX80, w ∈ wq_t_count := fun _ h => List.mem_append_right _ (List.mem_append_right _ (List.mem_append_left _ (h)))
set_option maxRecDepth 20000 in
theorem wi_t_count : ∀ w ∈ wq_t_count, w ∈ lw_tbl := List.forall_mem_append.mpr ⟨(by decide +kernel), List.forall_mem_append.mpr ⟨inKX5, List.forall_mem_append.mpr ⟨inKX8, List.forall_mem_append.mpr ⟨wi_size, List.forall_mem_append.mpr ⟨wi_left, wi_bitCount0⟩⟩⟩⟩⟩
set_option maxRecDepth 20000 in
theorem wg_t_count : GoodIn wq_t_count wq_t_count := goodIn_sub (fun _ h => h) (by decide +kernel)
set_option maxRecDepth 20000 in
theorem wc_t_count_size_61 : GoodIn wq_t_count (wsV RX8 61 RJx4a65c yJx4a65c_size_8abf5 wq_size) := goodIn_app (goodIn_of _ (by decide +kernel)) (fun w h => ⟨List.mem_append_right _ (List.mem_append_right _ (List.mem_append_right _ (List.mem_append_left _ (h)))), (wg_size w h).2⟩)
set_option maxRecDepth 20000 in
theorem wc_t_count_left_110 : GoodIn wq_t_count (wsV RX8 110 RX3 yX3_left wq_left) := goodIn_app (goodIn_of _ (by decide +kernel)) (fun w h => ⟨List.mem_append_right _ (List.mem_append_right _ (List.mem_append_right _ (List.mem_append_right _ (List.mem_append_left _ (h))))), (wg_left w h).2⟩)
set_option maxRecDepth 20000 in
theorem wc_t_count_bitCount0_189 : GoodIn wq_t_count (va_wsS RX8 189 yJ13_bitCount_95d88 wq_bitCount0) := goodIn_app (goodIn_of _ (by decide +kernel)) (fun w h => ⟨List.mem_append_right _ (List.mem_append_right _ (List.mem_append_right _ (List.mem_append_right _ (List.mem_append_right _ (h))))), (wg_bitCount0 w h).2⟩)
set_option maxHeartbeats 4000000 in
set_option maxRecDepth 100000 in
theorem c_t_count (l : Launch) (dC : Nat → ClassId) (dI : Nat → Nat → Nat) (h0 : Nat) (a : Nat → Nat) (z : Nat) (g0 : Nat) (g1 : Nat) (b : Nat) (p0 : Int32) (sz : Nat) : Met l yX8_count wq_t_count ({ frames := 1, cells := 0, slots := 0, locals := 21 }) (va_Pc [.ref h0, .int p0] (fun U => U.heap.size = sz ∧ va_P (dC, dI) vwCl [(h0, .inr (9, [.ref (a 0), .ref (a 1), .ref (a 2), .ref (a 3), .ref (a 4), .ref (a 5), .ref (a 6), .long 0, .long 0, .int 0, .int 0, .int 0, .int 0, .int 0])), (a 0, .inr (0, [.int 0, .ref z, .int 0])), (a 1, .inr (6, [.ref g0, .ref g1, .int 0])), (a 3, .inr (4, [.ref b, .long 0, .long 0, .long 0]))] U.heap ∧ va_K (dC, dI) vwCl [] U ∧ va_D (fun _ => True) [(h0, .inr (9, [.ref (a 0), .ref (a 1), .ref (a 2), .ref (a 3), .ref (a 4), .ref (a 5), .ref (a 6), .long 0, .long 0, .int 0, .int 0, .int 0, .int 0, .int 0])), (a 0, .inr (0, [.int 0, .ref z, .int 0])), (a 1, .inr (6, [.ref g0, .ref g1, .int 0])), (a 3, .inr (4, [.ref b, .long 0, .long 0, .long 0]))] ∧ pw_N U)) (va_Qi (fun (r : Int32) (_ : Unit) => r = if 0 ≤ p0 ∧ p0 ≤ 5 then 0 else (-1)) (fun (_ : Unit) (t : State) => va_P (dC, dI) vwCl [(h0, .inr (9, [.ref (a 0), .ref (a 1), .ref (a 2), .ref (a 3), .ref (a 4), .ref (a 5), .ref (a 6), .long 0, .long 0, .int 0, .int 0, .int 0, .int 0, .int 0])), (a 0, .inr (0, [.int 0, .ref z, .int 0])), (a 1, .inr (6, [.ref g0, .ref g1, .int 0])), (a 3, .inr (4, [.ref b, .long 0, .long 0, .long 0]))] t.heap ∧ va_D (va_A [(h0, .inr (9, [.ref (a 0), .ref (a 1), .ref (a 2), .ref (a 3), .ref (a 4), .ref (a 5), .ref (a 6), .long 0, .long 0, .int 0, .int 0, .int 0, .int 0, .int 0])), (a 0, .inr (0, [.int 0, .ref z, .int 0])), (a 1, .inr (6, [.ref g0, .ref g1, .int 0])), (a 3, .inr (4, [.ref b, .long 0, .long 0, .long 0]))] sz) [(h0, .inr (9, [.ref (a 0), .ref (a 1), .ref (a 2), .ref (a 3), .ref (a 4), .ref (a 5), .ref (a 6), .long 0, .long 0, .int 0, .int 0, .int 0, .int 0, .int 0])), (a 0, .inr (0, [.int 0, .ref z, .int 0])), (a 1, .inr (6, [.ref g0, .ref g1, .int 0])), (a 3, .inr (4, [.ref b, .long 0, .long 0, .long 0]))]) (va_A [(h0, .inr (9, [.ref (a 0), .ref (a 1), .ref (a 2), .ref (a 3), .ref (a 4), .ref (a 5), .ref (a 6), .long 0, .long 0, .int 0, .int 0, .int 0, .int 0, .int 0])), (a 0, .inr (0, [.int 0, .ref z, .int 0])), (a 1, .inr (6, [.ref g0, .ref g1, .int 0])), (a 3, .inr (4, [.ref b, .long 0, .long 0, .long 0]))] sz)) 0 0 (va_A [(h0, .inr (9, [.ref (a 0), .ref (a 1), .ref (a 2), .ref (a 3), .ref (a 4), .ref (a 5), .ref (a 6), .long 0, .long 0, .int 0, .int 0, .int 0, .int 0, .int 0])), (a 0, .inr (0, [.int 0, .ref z, .int 0])), (a 1, .inr (6, [.ref g0, .ref g1, .int 0])), (a 3, .inr (4, [.ref b, .long 0, .long 0, .long 0]))] sz) := by
  refine Met.ofW (cc := cX8_count) (maxL := 2) (ret := (some .int)) (by decide) rfl ?_
  intro p e s m args below meth c s₁ B hml hv
  obtain ⟨rfl, hsz, hP, hK, hD0, hN⟩ := hv
  have hx := B.exec
  have hb := B.bytes
  have hr := B.returns
  have hts := atoms_spec (ws := wq_t_count) B.pre
  have hown : s.vm.findClass RX8 = some m.cls := findClass_of_methodNamed B.named
  have hlocks := B.notSynchronized
  subst hsz
  have hD := hD0.self (sz := s.heap.size)
  generalize hAe : va_A [(h0, .inr (9, [.ref (a 0), .ref (a 1), .ref (a 2), .ref (a 3), .ref (a 4), .ref (a 5), .ref (a 6), .long 0, .long 0, .int 0, .int 0, .int 0, .int 0, .int 0])), (a 0, .inr (0, [.int 0, .ref z, .int 0])), (a 1, .inr (6, [.ref g0, .ref g1, .int 0])), (a 3, .inr (4, [.ref b, .long 0, .long 0, .long 0]))] s.heap.size = A at hD ⊢
  have hA : ∀ q : Nat, s.heap.size ≤ q → A q := fun q h => by rw [← hAe]; exact Or.inr h
  have hS : va_S A s.heap s.heap [] := va_S.rf
  have hP : va_P (dC, dI) vwCl [(h0, .inr (9, [.ref (a 0), .ref (a 1), .ref (a 2), .ref (a 3), .ref (a 4), .ref (a 5), .ref (a 6), .long 0, .long 0, .int 0, .int 0, .int 0, .int 0, .int 0])), (a 0, .inr (0, [.int 0, .ref z, .int 0])), (a 1, .inr (6, [.ref g0, .ref g1, .int 0])), (a 3, .inr (4, [.ref b, .long 0, .long 0, .long 0]))] s.heap := hP
  have hl := lv_entry ([.ref h0, .int p0]) (n := 2) (Nat.le_of_ble_eq_true rfl)
  rw [lg_entry_eq]
  generalize (lg_sl ([.ref h0, .int p0]) ++ List.replicate (2 - (lg_sl ([.ref h0, .int p0])).length) Slot.unset).toArray = ls at hl ⊢
  have hl : lv_has ls 2 [(0, .ref h0), (1, .int p0)] := hl
  refine lv_iload_n hx hb dX8_count_0 rfl (lv_at hl 1 rfl) ?_
  rcases Classical.em (p0 = 0) with c_1 | c_1
  · refine lv_tableIn (tgt := 40) (off := 39) hx hb dX8_count_1 (by rw [c_1]; decide) (by rw [c_1]; decide) (by rw [c_1]; rfl) (by decide) ?_
    refine lv_aload_n hx hb dX8_count_40 rfl (lv_at hl 0 rfl) ?_
    refine va_get (D := (dC, dI)) (ci := 9) (v := .ref (a 0)) (C := RX8) (T := TX8) (N := 14) hx hb hts in_t_count_X8 hown hK hP 0 rfl rfl 0 (by decide) (hts (.fieldLink RX8 10 "ServiceTree" "services" "Ljava/util/ArrayList;") (by decide +kernel)) (fun _ h9 => h9) rfl dX8_count_41 ?_
    have hPc := hP.sub (ws' := [(a 0, .inr (0, [.int 0, .ref z, .int 0]))]) [1] rfl
    have hDc := hD.sub (ws' := [(a 0, .inr (0, [.int 0, .ref z, .int 0]))]) [1] (by decide) rfl
    have hKc := hK.sub (tys' := []) [] rfl
    have hFc := va_free (wc := [(a 0, .inr (0, [.int 0, .ref z, .int 0]))]) hD hS hA [1] rfl
    refine va_calli (va_runV (As := []) (rest := []) ⟨hx, hb, hml, hown, hts⟩ (c_size l dC dI (a 0) z s.heap.size) (cwV 0 hts wc_t_count_size_61 rfl rfl rfl (by decide +kernel) ⟨Nat.le_of_ble_eq_true rfl, Nat.le_of_ble_eq_true rfl⟩) ⟨fun a U g mk q => by obtain ⟨q0, q1, qP, qK, qD, qN⟩ := q; exact ⟨q0, q1, qP, va_K.moved (u := U) (U := U.calling g mk a) (Vm.Alike.refl U.vm) qK, qD, pw_N.same (u := U) (U := U.calling g mk a) rfl qN⟩, va_recv hKc hPc (ci := 0) (q0 := 0) rfl rfl, fun U hU hW => ⟨rfl, by rw [hU], by rw [hU]; exact hPc, va_K.moved hW.alike hKc, hDc.weaken (fun _ _ _ _ => trivial), pw_N.warm hW hN⟩⟩ rfl rfl hl.1 rfl (lv_room (Nat.le_of_ble_eq_true rfl)) dX8_count_44 ⟨Nat.le_of_ble_eq_true rfl, Nat.le_of_ble_eq_true rfl⟩) hS (fun q _ h => hFc q h) hFc (fun r_2 u t H1 locs ht hvm hw hB hz1 hk1 hS => ?_)
    obtain ⟨hP1, hD1⟩ := hB
    rw [ht] at hP1
    obtain ⟨hP, hD⟩ := va_join (wr := [(h0, .inr (9, [.ref (a 0), .ref (a 1), .ref (a 2), .ref (a 3), .ref (a 4), .ref (a 5), .ref (a 6), .long 0, .long 0, .int 0, .int 0, .int 0, .int 0, .int 0])), (a 1, .inr (6, [.ref g0, .ref g1, .int 0])), (a 3, .inr (4, [.ref b, .long 0, .long 0, .long 0]))]) (w1 := [(a 0, .inr (0, [.int 0, .ref z, .int 0]))]) hP hD [1] [0, 2, 3] rfl rfl (by decide) (by decide) hk1 hFc hP1 hD1
    generalize H1 = H at hP hS ⊢
    replace hP : va_P (dC, dI) vwCl [(h0, .inr (9, [.ref (a 0), .ref (a 1), .ref (a 2), .ref (a 3), .ref (a 4), .ref (a 5), .ref (a 6), .long 0, .long 0, .int 0, .int 0, .int 0, .int 0, .int 0])), (a 1, .inr (6, [.ref g0, .ref g1, .int 0])), (a 3, .inr (4, [.ref b, .long 0, .long 0, .long 0])), (a 0, .inr (0, [.int 0, .ref z, .int 0]))] H := hP
    replace hD : va_D A [(h0, .inr (9, [.ref (a 0), .ref (a 1), .ref (a 2), .ref (a 3), .ref (a 4), .ref (a 5), .ref (a 6), .long 0, .long 0, .int 0, .int 0, .int 0, .int 0, .int 0])), (a 1, .inr (6, [.ref g0, .ref g1, .int 0])), (a 3, .inr (4, [.ref b, .long 0, .long 0, .long 0])), (a 0, .inr (0, [.int 0, .ref z, .int 0]))] := hD
    try dsimp only at hw
    subst hw
    have hP9 := hP.sub (ws' := [(h0, .inr (9, [.ref (a 0), .ref (a 1), .ref (a 2), .ref (a 3), .ref (a 4), .ref (a 5), .ref (a 6), .long 0, .long 0, .int 0, .int 0, .int 0, .int 0, .int 0])), (a 0, .inr (0, [.int 0, .ref z, .int 0])), (a 1, .inr (6, [.ref g0, .ref g1, .int 0])), (a 3, .inr (4, [.ref b, .long 0, .long 0, .long 0]))]) [0, 3, 1, 2] rfl
    have hD9 := hD.sub (ws' := [(h0, .inr (9, [.ref (a 0), .ref (a 1), .ref (a 2), .ref (a 3), .ref (a 4), .ref (a 5), .ref (a 6), .long 0, .long 0, .int 0, .int 0, .int 0, .int 0, .int 0])), (a 0, .inr (0, [.int 0, .ref z, .int 0])), (a 1, .inr (6, [.ref g0, .ref g1, .int 0])), (a 3, .inr (4, [.ref b, .long 0, .long 0, .long 0]))]) [0, 3, 1, 2] (by decide) rfl
    exact W.iret (v := 0) hx hb hr (fun t ht hW => ⟨⟨0, (), rfl, (if_pos (by have k0 := c_1; simp only [p1_le, p1_lt, p1_eq, p1_m6, p1_m1, p1_0, p1_1, p1_2, p1_3, p1_4, p1_5, p1_6, p1_7, p1_8, p1_9, p1_10, p1_11, p1_12, p1_13, p1_14, p1_15, p1_16, p1_17, p1_18, p1_19, p1_20, p1_40, p1_50, p1_200, p1_1000] at k0 ⊢; omega)).symm, by rw [ht]; exact hP9, hD9⟩, hS.F ht⟩) hS.2.2 dX8_count_47
  rcases Classical.em (p0 = 1) with c_3 | c_3
  · refine lv_tableIn (tgt := 48) (off := 47) hx hb dX8_count_1 (by rw [c_3]; decide) (by rw [c_3]; decide) (by rw [c_3]; rfl) (by decide) ?_
    refine lv_aload_n hx hb dX8_count_48 rfl (lv_at hl 0 rfl) ?_
    refine va_get (D := (dC, dI)) (ci := 9) (v := .ref (a 1)) (C := RX8) (T := TX8) (N := 14) hx hb hts in_t_count_X8 hown hK hP 0 rfl rfl 1 (by decide) (hts (.fieldLink RX8 19 "ServiceTree" "relations" "LServiceTree$Relations;") (by decide +kernel)) (fun _ h9 => h9) rfl dX8_count_49 ?_
    refine va_getN (D := (dC, dI)) (ci := 6) (v := .int 0) (C := RX5) (T := TX5) (N := 3) hx hb hts in_t_count_X5 hown hK hP 2 rfl rfl 2 (by decide) (va_Nw.use rfl (hN (.fieldLinkNest RX8 121 "ServiceTree$Relations" "size" "I" "ServiceTree") (by decide +kernel))) (fun _ h9 => h9) rfl dX8_count_52 ?_
    have hP9 := hP.sub (ws' := [(h0, .inr (9, [.ref (a 0), .ref (a 1), .ref (a 2), .ref (a 3), .ref (a 4), .ref (a 5), .ref (a 6), .long 0, .long 0, .int 0, .int 0, .int 0, .int 0, .int 0])), (a 0, .inr (0, [.int 0, .ref z, .int 0])), (a 1, .inr (6, [.ref g0, .ref g1, .int 0])), (a 3, .inr (4, [.ref b, .long 0, .long 0, .long 0]))]) [0, 1, 2, 3] rfl
    have hD9 := hD.sub (ws' := [(h0, .inr (9, [.ref (a 0), .ref (a 1), .ref (a 2), .ref (a 3), .ref (a 4), .ref (a 5), .ref (a 6), .long 0, .long 0, .int 0, .int 0, .int 0, .int 0, .int 0])), (a 0, .inr (0, [.int 0, .ref z, .int 0])), (a 1, .inr (6, [.ref g0, .ref g1, .int 0])), (a 3, .inr (4, [.ref b, .long 0, .long 0, .long 0]))]) [0, 1, 2, 3] (by decide) rfl
    exact W.iret (v := 0) hx hb hr (fun t ht hW => ⟨⟨0, (), rfl, (if_pos (by have k0 := c_1; have k1 := c_3; simp only [p1_le, p1_lt, p1_eq, p1_m6, p1_m1, p1_0, p1_1, p1_2, p1_3, p1_4, p1_5, p1_6, p1_7, p1_8, p1_9, p1_10, p1_11, p1_12, p1_13, p1_14, p1_15, p1_16, p1_17, p1_18, p1_19, p1_20, p1_40, p1_50, p1_200, p1_1000] at k0 k1 ⊢; omega)).symm, by rw [ht]; exact hP9, hD9⟩, hS.F ht⟩) hS.2.2 dX8_count_55
  rcases Classical.em (p0 = 2) with c_4 | c_4
  · refine lv_tableIn (tgt := 56) (off := 55) hx hb dX8_count_1 (by rw [c_4]; decide) (by rw [c_4]; decide) (by rw [c_4]; rfl) (by decide) ?_
    refine lv_aload_n hx hb dX8_count_56 rfl (lv_at hl 0 rfl) ?_
    refine va_get (D := (dC, dI)) (ci := 9) (v := .ref (a 3)) (C := RX8) (T := TX8) (N := 14) hx hb hts in_t_count_X8 hown hK hP 0 rfl rfl 3 (by decide) (hts (.fieldLink RX8 35 "ServiceTree" "jobs" "LServiceTree$Jobs;") (by decide +kernel)) (fun _ h9 => h9) rfl dX8_count_57 ?_
    have hPc := hP.sub (ws' := [(a 3, .inr (4, [.ref b, .long 0, .long 0, .long 0]))]) [3] rfl
    have hDc := hD.sub (ws' := [(a 3, .inr (4, [.ref b, .long 0, .long 0, .long 0]))]) [3] (by decide) rfl
    have hKc := hK.sub (tys' := []) [] rfl
    have hFc := va_free (wc := [(a 3, .inr (4, [.ref b, .long 0, .long 0, .long 0]))]) hD hS hA [3] rfl
    refine va_calll (va_runV (As := []) (rest := []) ⟨hx, hb, hml, hown, hts⟩ (c_left l dC dI (a 3) b s.heap.size) (cwV 0 hts wc_t_count_left_110 rfl rfl rfl (by decide +kernel) ⟨Nat.le_of_ble_eq_true rfl, Nat.le_of_ble_eq_true rfl⟩) ⟨fun a U g mk q => by obtain ⟨q0, q1, qP, qK, qD, qN⟩ := q; exact ⟨q0, q1, qP, va_K.moved (u := U) (U := U.calling g mk a) (Vm.Alike.refl U.vm) qK, qD, pw_N.same (u := U) (U := U.calling g mk a) rfl qN⟩, va_recv hKc hPc (ci := 4) (q0 := 0) rfl rfl, fun U hU hW => ⟨rfl, by rw [hU], by rw [hU]; exact hPc, va_K.moved hW.alike hKc, hDc.weaken (fun _ _ _ _ => trivial), pw_N.warm hW hN⟩⟩ rfl rfl hl.1 rfl (lv_room (Nat.le_of_ble_eq_true rfl)) dX8_count_60 ⟨Nat.le_of_ble_eq_true rfl, Nat.le_of_ble_eq_true rfl⟩) hS (fun q _ h => hFc q h) hFc (fun r_5 u t H1 locs ht hvm hw hB hz1 hk1 hS => ?_)
    obtain ⟨hP1, hD1⟩ := hB
    rw [ht] at hP1
    obtain ⟨hP, hD⟩ := va_join (wr := [(h0, .inr (9, [.ref (a 0), .ref (a 1), .ref (a 2), .ref (a 3), .ref (a 4), .ref (a 5), .ref (a 6), .long 0, .long 0, .int 0, .int 0, .int 0, .int 0, .int 0])), (a 0, .inr (0, [.int 0, .ref z, .int 0])), (a 1, .inr (6, [.ref g0, .ref g1, .int 0]))]) (w1 := [(a 3, .inr (4, [.ref b, .long 0, .long 0, .long 0]))]) hP hD [3] [0, 1, 2] rfl rfl (by decide) (by decide) hk1 hFc hP1 hD1
    generalize H1 = H at hP hS ⊢
    replace hP : va_P (dC, dI) vwCl [(h0, .inr (9, [.ref (a 0), .ref (a 1), .ref (a 2), .ref (a 3), .ref (a 4), .ref (a 5), .ref (a 6), .long 0, .long 0, .int 0, .int 0, .int 0, .int 0, .int 0])), (a 0, .inr (0, [.int 0, .ref z, .int 0])), (a 1, .inr (6, [.ref g0, .ref g1, .int 0])), (a 3, .inr (4, [.ref b, .long 0, .long 0, .long 0]))] H := hP
    replace hD : va_D A [(h0, .inr (9, [.ref (a 0), .ref (a 1), .ref (a 2), .ref (a 3), .ref (a 4), .ref (a 5), .ref (a 6), .long 0, .long 0, .int 0, .int 0, .int 0, .int 0, .int 0])), (a 0, .inr (0, [.int 0, .ref z, .int 0])), (a 1, .inr (6, [.ref g0, .ref g1, .int 0])), (a 3, .inr (4, [.ref b, .long 0, .long 0, .long 0]))] := hD
    try dsimp only at hw
    subst hw
    have hPc := hP.sub (ws' := []) [] rfl
    have hDc := hD.sub (ws' := []) [] (by decide) rfl
    have hKc := hK.sub (tys' := []) [] rfl
    have hFc := va_free (wc := []) hD hS hA [] rfl
    refine va_calli (va_runS (As := [.long 0]) (rest := []) ⟨hx, hb, hml, hown, hts⟩ (c_bitCount0 l dC dI  H.size) (va_cwS 1 hts wc_t_count_bitCount0_189 rfl rfl rfl (by decide +kernel) ⟨Nat.le_of_ble_eq_true rfl, Nat.le_of_ble_eq_true rfl⟩) ⟨fun a U g mk q => by obtain ⟨q0, q1, qP, qK, qD, qN⟩ := q; exact ⟨q0, q1, qP, va_K.moved (u := U) (U := U.calling g mk a) (Vm.Alike.refl U.vm) qK, qD, pw_N.same (u := U) (U := U.calling g mk a) rfl qN⟩, fun U hU hW => ⟨rfl, by rw [hU], by rw [hU]; exact hPc, va_K.moved hW.alike hKc, hDc.weaken (fun _ _ _ _ => trivial), pw_N.warm hW hN⟩⟩ rfl rfl hl.1 rfl (lv_room (Nat.le_of_ble_eq_true rfl)) dX8_count_63 ⟨Nat.le_of_ble_eq_true rfl, Nat.le_of_ble_eq_true rfl⟩) hS (fun q _ h => hFc q h) hFc (fun r_6 u t H1 locs ht hvm hw hB hz1 hk1 hS => ?_)
    obtain ⟨hP1, hD1⟩ := hB
    rw [ht] at hP1
    obtain ⟨hP, hD⟩ := va_join (wr := [(h0, .inr (9, [.ref (a 0), .ref (a 1), .ref (a 2), .ref (a 3), .ref (a 4), .ref (a 5), .ref (a 6), .long 0, .long 0, .int 0, .int 0, .int 0, .int 0, .int 0])), (a 0, .inr (0, [.int 0, .ref z, .int 0])), (a 1, .inr (6, [.ref g0, .ref g1, .int 0])), (a 3, .inr (4, [.ref b, .long 0, .long 0, .long 0]))]) (w1 := []) hP hD [] [0, 1, 2, 3] rfl rfl (by decide) (by decide) hk1 hFc hP1 hD1
    generalize H1 = H at hP hS ⊢
    replace hP : va_P (dC, dI) vwCl [(h0, .inr (9, [.ref (a 0), .ref (a 1), .ref (a 2), .ref (a 3), .ref (a 4), .ref (a 5), .ref (a 6), .long 0, .long 0, .int 0, .int 0, .int 0, .int 0, .int 0])), (a 0, .inr (0, [.int 0, .ref z, .int 0])), (a 1, .inr (6, [.ref g0, .ref g1, .int 0])), (a 3, .inr (4, [.ref b, .long 0, .long 0, .long 0]))] H := hP
    replace hD : va_D A [(h0, .inr (9, [.ref (a 0), .ref (a 1), .ref (a 2), .ref (a 3), .ref (a 4), .ref (a 5), .ref (a 6), .long 0, .long 0, .int 0, .int 0, .int 0, .int 0, .int 0])), (a 0, .inr (0, [.int 0, .ref z, .int 0])), (a 1, .inr (6, [.ref g0, .ref g1, .int 0])), (a 3, .inr (4, [.ref b, .long 0, .long 0, .long 0]))] := hD
    try dsimp only at hw
    subst hw
    have hP9 := hP.sub (ws' := [(h0, .inr (9, [.ref (a 0), .ref (a 1), .ref (a 2), .ref (a 3), .ref (a 4), .ref (a 5), .ref (a 6), .long 0, .long 0, .int 0, .int 0, .int 0, .int 0, .int 0])), (a 0, .inr (0, [.int 0, .ref z, .int 0])), (a 1, .inr (6, [.ref g0, .ref g1, .int 0])), (a 3, .inr (4, [.ref b, .long 0, .long 0, .long 0]))]) [0, 1, 2, 3] rfl
    have hD9 := hD.sub (ws' := [(h0, .inr (9, [.ref (a 0), .ref (a 1), .ref (a 2), .ref (a 3), .ref (a 4), .ref (a 5), .ref (a 6), .long 0, .long 0, .int 0, .int 0, .int 0, .int 0, .int 0])), (a 0, .inr (0, [.int 0, .ref z, .int 0])), (a 1, .inr (6, [.ref g0, .ref g1, .int 0])), (a 3, .inr (4, [.ref b, .long 0, .long 0, .long 0]))]) [0, 1, 2, 3] (by decide) rfl
    exact W.iret (v := 0) hx hb hr (fun t ht hW => ⟨⟨0, (), rfl, (if_pos (by have k0 := c_1; have k1 := c_3; have k2 := c_4; simp only [p1_le, p1_lt, p1_eq, p1_m6, p1_m1, p1_0, p1_1, p1_2, p1_3, p1_4, p1_5, p1_6, p1_7, p1_8, p1_9, p1_10, p1_11, p1_12, p1_13, p1_14, p1_15, p1_16, p1_17, p1_18, p1_19, p1_20, p1_40, p1_50, p1_200, p1_1000] at k0 k1 k2 ⊢; omega)).symm, by rw [ht]; exact hP9, hD9⟩, hS.F ht⟩) hS.2.2 dX8_count_66
  rcases Classical.em (p0 = 3) with c_7 | c_7
  · refine lv_tableIn (tgt := 67) (off := 66) hx hb dX8_count_1 (by rw [c_7]; decide) (by rw [c_7]; decide) (by rw [c_7]; rfl) (by decide) ?_
    refine lv_aload_n hx hb dX8_count_67 rfl (lv_at hl 0 rfl) ?_
    refine va_get (D := (dC, dI)) (ci := 9) (v := .int 0) (C := RX8) (T := TX8) (N := 14) hx hb hts in_t_count_X8 hown hK hP 0 rfl rfl 9 (by decide) (hts (.fieldLink RX8 67 "ServiceTree" "now" "I") (by decide +kernel)) (fun _ h9 => h9) rfl dX8_count_68 ?_
    have hP9 := hP.sub (ws' := [(h0, .inr (9, [.ref (a 0), .ref (a 1), .ref (a 2), .ref (a 3), .ref (a 4), .ref (a 5), .ref (a 6), .long 0, .long 0, .int 0, .int 0, .int 0, .int 0, .int 0])), (a 0, .inr (0, [.int 0, .ref z, .int 0])), (a 1, .inr (6, [.ref g0, .ref g1, .int 0])), (a 3, .inr (4, [.ref b, .long 0, .long 0, .long 0]))]) [0, 1, 2, 3] rfl
    have hD9 := hD.sub (ws' := [(h0, .inr (9, [.ref (a 0), .ref (a 1), .ref (a 2), .ref (a 3), .ref (a 4), .ref (a 5), .ref (a 6), .long 0, .long 0, .int 0, .int 0, .int 0, .int 0, .int 0])), (a 0, .inr (0, [.int 0, .ref z, .int 0])), (a 1, .inr (6, [.ref g0, .ref g1, .int 0])), (a 3, .inr (4, [.ref b, .long 0, .long 0, .long 0]))]) [0, 1, 2, 3] (by decide) rfl
    exact W.iret (v := 0) hx hb hr (fun t ht hW => ⟨⟨0, (), rfl, (if_pos (by have k0 := c_1; have k1 := c_3; have k2 := c_4; have k3 := c_7; simp only [p1_le, p1_lt, p1_eq, p1_m6, p1_m1, p1_0, p1_1, p1_2, p1_3, p1_4, p1_5, p1_6, p1_7, p1_8, p1_9, p1_10, p1_11, p1_12, p1_13, p1_14, p1_15, p1_16, p1_17, p1_18, p1_19, p1_20, p1_40, p1_50, p1_200, p1_1000] at k0 k1 k2 k3 ⊢; omega)).symm, by rw [ht]; exact hP9, hD9⟩, hS.F ht⟩) hS.2.2 dX8_count_71
  rcases Classical.em (p0 = 4) with c_8 | c_8
  · refine lv_tableIn (tgt := 72) (off := 71) hx hb dX8_count_1 (by rw [c_8]; decide) (by rw [c_8]; decide) (by rw [c_8]; rfl) (by decide) ?_
    refine lv_aload_n hx hb dX8_count_72 rfl (lv_at hl 0 rfl) ?_
    refine va_get (D := (dC, dI)) (ci := 9) (v := .int 0) (C := RX8) (T := TX8) (N := 14) hx hb hts in_t_count_X8 hown hK hP 0 rfl rfl 10 (by decide) (hts (.fieldLink RX8 152 "ServiceTree" "lettersCome" "I") (by decide +kernel)) (fun _ h9 => h9) rfl dX8_count_73 ?_
    have hP9 := hP.sub (ws' := [(h0, .inr (9, [.ref (a 0), .ref (a 1), .ref (a 2), .ref (a 3), .ref (a 4), .ref (a 5), .ref (a 6), .long 0, .long 0, .int 0, .int 0, .int 0, .int 0, .int 0])), (a 0, .inr (0, [.int 0, .ref z, .int 0])), (a 1, .inr (6, [.ref g0, .ref g1, .int 0])), (a 3, .inr (4, [.ref b, .long 0, .long 0, .long 0]))]) [0, 1, 2, 3] rfl
    have hD9 := hD.sub (ws' := [(h0, .inr (9, [.ref (a 0), .ref (a 1), .ref (a 2), .ref (a 3), .ref (a 4), .ref (a 5), .ref (a 6), .long 0, .long 0, .int 0, .int 0, .int 0, .int 0, .int 0])), (a 0, .inr (0, [.int 0, .ref z, .int 0])), (a 1, .inr (6, [.ref g0, .ref g1, .int 0])), (a 3, .inr (4, [.ref b, .long 0, .long 0, .long 0]))]) [0, 1, 2, 3] (by decide) rfl
    exact W.iret (v := 0) hx hb hr (fun t ht hW => ⟨⟨0, (), rfl, (if_pos (by have k0 := c_1; have k1 := c_3; have k2 := c_4; have k3 := c_7; have k4 := c_8; simp only [p1_le, p1_lt, p1_eq, p1_m6, p1_m1, p1_0, p1_1, p1_2, p1_3, p1_4, p1_5, p1_6, p1_7, p1_8, p1_9, p1_10, p1_11, p1_12, p1_13, p1_14, p1_15, p1_16, p1_17, p1_18, p1_19, p1_20, p1_40, p1_50, p1_200, p1_1000] at k0 k1 k2 k3 k4 ⊢; omega)).symm, by rw [ht]; exact hP9, hD9⟩, hS.F ht⟩) hS.2.2 dX8_count_76
  rcases Classical.em (p0 = 5) with c_9 | c_9
  · refine lv_tableIn (tgt := 77) (off := 76) hx hb dX8_count_1 (by rw [c_9]; decide) (by rw [c_9]; decide) (by rw [c_9]; rfl) (by decide) ?_
    refine lv_aload_n hx hb dX8_count_77 rfl (lv_at hl 0 rfl) ?_
    refine va_get (D := (dC, dI)) (ci := 9) (v := .int 0) (C := RX8) (T := TX8) (N := 14) hx hb hts in_t_count_X8 hown hK hP 0 rfl rfl 11 (by decide) (hts (.fieldLink RX8 195 "ServiceTree" "lettersRead" "I") (by decide +kernel)) (fun _ h9 => h9) rfl dX8_count_78 ?_
    have hP9 := hP.sub (ws' := [(h0, .inr (9, [.ref (a 0), .ref (a 1), .ref (a 2), .ref (a 3), .ref (a 4), .ref (a 5), .ref (a 6), .long 0, .long 0, .int 0, .int 0, .int 0, .int 0, .int 0])), (a 0, .inr (0, [.int 0, .ref z, .int 0])), (a 1, .inr (6, [.ref g0, .ref g1, .int 0])), (a 3, .inr (4, [.ref b, .long 0, .long 0, .long 0]))]) [0, 1, 2, 3] rfl
    have hD9 := hD.sub (ws' := [(h0, .inr (9, [.ref (a 0), .ref (a 1), .ref (a 2), .ref (a 3), .ref (a 4), .ref (a 5), .ref (a 6), .long 0, .long 0, .int 0, .int 0, .int 0, .int 0, .int 0])), (a 0, .inr (0, [.int 0, .ref z, .int 0])), (a 1, .inr (6, [.ref g0, .ref g1, .int 0])), (a 3, .inr (4, [.ref b, .long 0, .long 0, .long 0]))]) [0, 1, 2, 3] (by decide) rfl
    exact W.iret (v := 0) hx hb hr (fun t ht hW => ⟨⟨0, (), rfl, (if_pos (by have k0 := c_1; have k1 := c_3; have k2 := c_4; have k3 := c_7; have k4 := c_8; have k5 := c_9; simp only [p1_le, p1_lt, p1_eq, p1_m6, p1_m1, p1_0, p1_1, p1_2, p1_3, p1_4, p1_5, p1_6, p1_7, p1_8, p1_9, p1_10, p1_11, p1_12, p1_13, p1_14, p1_15, p1_16, p1_17, p1_18, p1_19, p1_20, p1_40, p1_50, p1_200, p1_1000] at k0 k1 k2 k3 k4 k5 ⊢; omega)).symm, by rw [ht]; exact hP9, hD9⟩, hS.F ht⟩) hS.2.2 dX8_count_81
  refine lv_tableOut (tgt := 82) hx hb dX8_count_1 (by have k0 := c_1; have k1 := c_3; have k2 := c_4; have k3 := c_7; have k4 := c_8; have k5 := c_9; simp only [p1_le, p1_lt, p1_eq, p1_m6, p1_m1, p1_0, p1_1, p1_2, p1_3, p1_4, p1_5, p1_6, p1_7, p1_8, p1_9, p1_10, p1_11, p1_12, p1_13, p1_14, p1_15, p1_16, p1_17, p1_18, p1_19, p1_20, p1_40, p1_50, p1_200, p1_1000] at k0 k1 k2 k3 k4 k5 ⊢; omega) (by decide) ?_
  refine lv_iconst (v := (-1)) hx hb dX8_count_82 (by decide) ?_
  have hP9 := hP.sub (ws' := [(h0, .inr (9, [.ref (a 0), .ref (a 1), .ref (a 2), .ref (a 3), .ref (a 4), .ref (a 5), .ref (a 6), .long 0, .long 0, .int 0, .int 0, .int 0, .int 0, .int 0])), (a 0, .inr (0, [.int 0, .ref z, .int 0])), (a 1, .inr (6, [.ref g0, .ref g1, .int 0])), (a 3, .inr (4, [.ref b, .long 0, .long 0, .long 0]))]) [0, 1, 2, 3] rfl
  have hD9 := hD.sub (ws' := [(h0, .inr (9, [.ref (a 0), .ref (a 1), .ref (a 2), .ref (a 3), .ref (a 4), .ref (a 5), .ref (a 6), .long 0, .long 0, .int 0, .int 0, .int 0, .int 0, .int 0])), (a 0, .inr (0, [.int 0, .ref z, .int 0])), (a 1, .inr (6, [.ref g0, .ref g1, .int 0])), (a 3, .inr (4, [.ref b, .long 0, .long 0, .long 0]))]) [0, 1, 2, 3] (by decide) rfl
  exact W.iret (v := (-1)) hx hb hr (fun t ht hW => ⟨⟨(-1), (), rfl, (if_neg (by have k0 := c_1; have k1 := c_3; have k2 := c_4; have k3 := c_7; have k4 := c_8; have k5 := c_9; simp only [p1_le, p1_lt, p1_eq, p1_m6, p1_m1, p1_0, p1_1, p1_2, p1_3, p1_4, p1_5, p1_6, p1_7, p1_8, p1_9, p1_10, p1_11, p1_12, p1_13, p1_14, p1_15, p1_16, p1_17, p1_18, p1_19, p1_20, p1_40, p1_50, p1_200, p1_1000] at k0 k1 k2 k3 k4 k5 ⊢; omega)).symm, by rw [ht]; exact hP9, hD9⟩, hS.F ht⟩) hS.2.2 dX8_count_83
