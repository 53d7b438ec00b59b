theorem dX9_is_0 : decode cX9_is 0 = .ok (.iload_n 1, 1) := by decide +kernel
theorem dX9_is_1 : decode cX9_is 1 = .ok (.ifCond .lt 15, 3) := by decide +kernel
theorem dX9_is_4 : decode cX9_is 4 = .ok (.iload_n 1, 1) := by decide +kernel
theorem dX9_is_5 : decode cX9_is 5 = .ok (.aload_n 0, 1) := by decide +kernel
theorem dX9_is_6 : decode cX9_is 6 = .ok (.getfield 126, 3) := by decide +kernel
theorem dX9_is_9 : decode cX9_is 9 = .ok (.if_icmp .ge 7, 3) := by decide +kernel
theorem dX9_is_16 : decode cX9_is 16 = .ok (.iconst 0, 1) := by decide +kernel
theorem dX9_is_17 : decode cX9_is 17 = .ok (.ireturn, 1) := by decide +kernel
theorem dX9_life_0 : decode cX9_life 0 = .ok (.aload_n 0, 1) := by decide +kernel
theorem dX9_life_1 : decode cX9_life 1 = .ok (.iload_n 1, 1) := by decide +kernel
theorem dX9_life_2 : decode cX9_life 2 = .ok (.invokevirtual 135, 3) := by decide +kernel
theorem dX9_life_5 : decode cX9_life 5 = .ok (.ifCond .eq 24, 3) := by decide +kernel
theorem dX9_life_29 : decode cX9_life 29 = .ok (.iconst (-1), 1) := by decide +kernel
theorem dX9_life_30 : decode cX9_life 30 = .ok (.ireturn, 1) := by decide +kernel
theorem dX9_again_0 : decode cX9_again 0 = .ok (.aload_n 0, 1) := by decide +kernel
theorem dX9_again_1 : decode cX9_again 1 = .ok (.iload_n 1, 1) := by decide +kernel
theorem dX9_again_2 : decode cX9_again 2 = .ok (.invokevirtual 135, 3) := by decide +kernel
theorem dX9_again_5 : decode cX9_again 5 = .ok (.ifCond .eq 38, 3) := by decide +kernel
theorem dX9_again_43 : decode cX9_again 43 = .ok (.iconst (-1), 1) := by decide +kernel
theorem dX9_again_44 : decode cX9_again 44 = .ok (.ireturn, 1) := by decide +kernel
theorem dX9_jobs_0 : decode cX9_jobs 0 = .ok (.iconst 0, 1) := by decide +kernel
theorem dX9_jobs_1 : decode cX9_jobs 1 = .ok (.istore_n 1, 1) := by decide +kernel
theorem dX9_jobs_2 : decode cX9_jobs 2 = .ok (.iconst 0, 1) := by decide +kernel
theorem dX9_jobs_3 : decode cX9_jobs 3 = .ok (.istore_n 2, 1) := by decide +kernel
theorem dX9_jobs_4 : decode cX9_jobs 4 = .ok (.iload_n 2, 1) := by decide +kernel
theorem dX9_jobs_5 : decode cX9_jobs 5 = .ok (.aload_n 0, 1) := by decide +kernel
theorem dX9_jobs_6 : decode cX9_jobs 6 = .ok (.getfield 126, 3) := by decide +kernel
theorem dX9_jobs_9 : decode cX9_jobs 9 = .ok (.if_icmp .ge 26, 3) := by decide +kernel
theorem dX9_jobs_35 : decode cX9_jobs 35 = .ok (.iload_n 1, 1) := by decide +kernel
theorem dX9_jobs_36 : decode cX9_jobs 36 = .ok (.ireturn, 1) := by decide +kernel
theorem dX9_isPair_0 : decode cX9_isPair 0 = .ok (.iload_n 1, 1) := by decide +kernel
theorem dX9_isPair_1 : decode cX9_isPair 1 = .ok (.ifCond .lt 33, 3) := by decide +kernel
theorem dX9_isPair_4 : decode cX9_isPair 4 = .ok (.iload_n 1, 1) := by decide +kernel
theorem dX9_isPair_5 : decode cX9_isPair 5 = .ok (.iconst 3, 1) := by decide +kernel
theorem dX9_isPair_6 : decode cX9_isPair 6 = .ok (.if_icmp .gt 28, 3) := by decide +kernel
theorem dX9_isPair_9 : decode cX9_isPair 9 = .ok (.aload_n 0, 1) := by decide +kernel
theorem dX9_isPair_10 : decode cX9_isPair 10 = .ok (.iload_n 2, 1) := by decide +kernel
theorem dX9_isPair_11 : decode cX9_isPair 11 = .ok (.invokevirtual 135, 3) := by decide +kernel
theorem dX9_isPair_14 : decode cX9_isPair 14 = .ok (.ifCond .eq 20, 3) := by decide +kernel
theorem dX9_isPair_34 : decode cX9_isPair 34 = .ok (.iconst 0, 1) := by decide +kernel
theorem dX9_isPair_35 : decode cX9_isPair 35 = .ok (.ireturn, 1) := by decide +kernel
theorem dX9_relation_0 : decode cX9_relation 0 = .ok (.aload_n 0, 1) := by decide +kernel
theorem dX9_relation_1 : decode cX9_relation 1 = .ok (.iload_n 1, 1) := by decide +kernel
theorem dX9_relation_2 : decode cX9_relation 2 = .ok (.iload_n 2, 1) := by decide +kernel
theorem dX9_relation_3 : decode cX9_relation 3 = .ok (.iload_n 3, 1) := by decide +kernel
theorem dX9_relation_4 : decode cX9_relation 4 = .ok (.invokevirtual 139, 3) := by decide +kernel
theorem dX9_relation_7 : decode cX9_relation 7 = .ok (.ifCond .ne 5, 3) := by decide +kernel
theorem dX9_relation_10 : decode cX9_relation 10 = .ok (.iconst (-1), 1) := by decide +kernel
theorem dX9_relation_11 : decode cX9_relation 11 = .ok (.ireturn, 1) := by decide +kernel
theorem dX9_undo_0 : decode cX9_undo 0 = .ok (.aload_n 0, 1) := by decide +kernel
theorem dX9_undo_1 : decode cX9_undo 1 = .ok (.iload_n 1, 1) := by decide +kernel
theorem dX9_undo_2 : decode cX9_undo 2 = .ok (.iload_n 2, 1) := by decide +kernel
theorem dX9_undo_3 : decode cX9_undo 3 = .ok (.iload_n 3, 1) := by decide +kernel
theorem dX9_undo_4 : decode cX9_undo 4 = .ok (.invokevirtual 139, 3) := by decide +kernel
theorem dX9_undo_7 : decode cX9_undo 7 = .ok (.ifCond .ne 5, 3) := by decide +kernel
theorem dX9_undo_10 : decode cX9_undo 10 = .ok (.iconst (-1), 1) := by decide +kernel
theorem dX9_undo_11 : decode cX9_undo 11 = .ok (.ireturn, 1) := by decide +kernel
theorem dX9_order_0 : decode cX9_order 0 = .ok (.iload_n 1, 1) := by decide +kernel
theorem dX9_order_1 : decode cX9_order 1 = .ok (.ifCond .lt 16, 3) := by decide +kernel
theorem dX9_order_4 : decode cX9_order 4 = .ok (.iload_n 1, 1) := by decide +kernel
theorem dX9_order_5 : decode cX9_order 5 = .ok (.iconst 2, 1) := by decide +kernel
theorem dX9_order_6 : decode cX9_order 6 = .ok (.if_icmp .gt 11, 3) := by decide +kernel
theorem dX9_order_9 : decode cX9_order 9 = .ok (.aload_n 0, 1) := by decide +kernel
theorem dX9_order_10 : decode cX9_order 10 = .ok (.iload_n 2, 1) := by decide +kernel
theorem dX9_order_11 : decode cX9_order 11 = .ok (.invokevirtual 135, 3) := by decide +kernel
theorem dX9_order_14 : decode cX9_order 14 = .ok (.ifCond .ne 5, 3) := by decide +kernel
theorem dX9_order_17 : decode cX9_order 17 = .ok (.iconst (-1), 1) := by decide +kernel
theorem dX9_order_18 : decode cX9_order 18 = .ok (.ireturn, 1) := by decide +kernel
theorem dX9_endJobs_0 : decode cX9_endJobs 0 = .ok (.iconst 0, 1) := by decide +kernel
theorem dX9_endJobs_1 : decode cX9_endJobs 1 = .ok (.istore_n 1, 1) := by decide +kernel
theorem dX9_endJobs_2 : decode cX9_endJobs 2 = .ok (.iload_n 1, 1) := by decide +kernel
theorem dX9_endJobs_3 : decode cX9_endJobs 3 = .ok (.aload_n 0, 1) := by decide +kernel
theorem dX9_endJobs_4 : decode cX9_endJobs 4 = .ok (.getfield 126, 3) := by decide +kernel
theorem dX9_endJobs_7 : decode cX9_endJobs 7 = .ok (.if_icmp .ge 66, 3) := by decide +kernel
theorem dX9_endJobs_73 : decode cX9_endJobs 73 = .ok (.return_, 1) := by decide +kernel
theorem dX9_begin_0 : decode cX9_begin 0 = .ok (.iconst 1, 1) := by decide +kernel
theorem dX9_begin_1 : decode cX9_begin 1 = .ok (.istore_n 1, 1) := by decide +kernel
theorem dX9_begin_2 : decode cX9_begin 2 = .ok (.iload_n 1, 1) := by decide +kernel
theorem dX9_begin_3 : decode cX9_begin 3 = .ok (.ifCond .eq 75, 3) := by decide +kernel
theorem dX9_begin_6 : decode cX9_begin 6 = .ok (.aload_n 0, 1) := by decide +kernel
theorem dX9_begin_7 : decode cX9_begin 7 = .ok (.invokevirtual 222, 3) := by decide +kernel
theorem dX9_begin_10 : decode cX9_begin 10 = .ok (.iconst 0, 1) := by decide +kernel
theorem dX9_begin_11 : decode cX9_begin 11 = .ok (.istore_n 2, 1) := by decide +kernel
theorem dX9_begin_12 : decode cX9_begin 12 = .ok (.iload_n 2, 1) := by decide +kernel
theorem dX9_begin_13 : decode cX9_begin 13 = .ok (.aload_n 0, 1) := by decide +kernel
theorem dX9_begin_14 : decode cX9_begin 14 = .ok (.getfield 126, 3) := by decide +kernel
theorem dX9_begin_17 : decode cX9_begin 17 = .ok (.if_icmp .ge 35, 3) := by decide +kernel
theorem dX9_begin_52 : decode cX9_begin 52 = .ok (.iload_n 2, 1) := by decide +kernel
theorem dX9_begin_53 : decode cX9_begin 53 = .ok (.aload_n 0, 1) := by decide +kernel
theorem dX9_begin_54 : decode cX9_begin 54 = .ok (.getfield 126, 3) := by decide +kernel
theorem dX9_begin_57 : decode cX9_begin 57 = .ok (.if_icmp .ge 7, 3) := by decide +kernel
theorem dX9_begin_64 : decode cX9_begin 64 = .ok (.iconst 0, 1) := by decide +kernel
theorem dX9_begin_65 : decode cX9_begin 65 = .ok (.istore_n 1, 1) := by decide +kernel
theorem dX9_begin_66 : decode cX9_begin 66 = .ok (.iload_n 1, 1) := by decide +kernel
theorem dX9_begin_67 : decode cX9_begin 67 = .ok (.ifCond .eq 8, 3) := by decide +kernel
theorem dX9_begin_75 : decode cX9_begin 75 = .ok (.goto (-73), 3) := by decide +kernel
theorem dX9_begin_78 : decode cX9_begin 78 = .ok (.return_, 1) := by decide +kernel
theorem dX9_oneTick_0 : decode cX9_oneTick 0 = .ok (.aload_n 0, 1) := by decide +kernel
theorem dX9_oneTick_1 : decode cX9_oneTick 1 = .ok (.dup, 1) := by decide +kernel
theorem dX9_oneTick_2 : decode cX9_oneTick 2 = .ok (.getfield 129, 3) := by decide +kernel
theorem dX9_oneTick_5 : decode cX9_oneTick 5 = .ok (.iconst 1, 1) := by decide +kernel
theorem dX9_oneTick_6 : decode cX9_oneTick 6 = .ok (.iadd, 1) := by decide +kernel
theorem dX9_oneTick_7 : decode cX9_oneTick 7 = .ok (.putfield 129, 3) := by decide +kernel
theorem dX9_oneTick_10 : decode cX9_oneTick 10 = .ok (.iconst 0, 1) := by decide +kernel
theorem dX9_oneTick_11 : decode cX9_oneTick 11 = .ok (.istore_n 1, 1) := by decide +kernel
theorem dX9_oneTick_12 : decode cX9_oneTick 12 = .ok (.iload_n 1, 1) := by decide +kernel
theorem dX9_oneTick_13 : decode cX9_oneTick 13 = .ok (.aload_n 0, 1) := by decide +kernel
theorem dX9_oneTick_14 : decode cX9_oneTick 14 = .ok (.getfield 126, 3) := by decide +kernel
theorem dX9_oneTick_17 : decode cX9_oneTick 17 = .ok (.if_icmp .ge 14, 3) := by decide +kernel
theorem dX9_oneTick_31 : decode cX9_oneTick 31 = .ok (.iconst 0, 1) := by decide +kernel
theorem dX9_oneTick_32 : decode cX9_oneTick 32 = .ok (.istore_n 1, 1) := by decide +kernel
theorem dX9_oneTick_33 : decode cX9_oneTick 33 = .ok (.iload_n 1, 1) := by decide +kernel
theorem dX9_oneTick_34 : decode cX9_oneTick 34 = .ok (.aload_n 0, 1) := by decide +kernel
theorem dX9_oneTick_35 : decode cX9_oneTick 35 = .ok (.getfield 126, 3) := by decide +kernel
theorem dX9_oneTick_38 : decode cX9_oneTick 38 = .ok (.if_icmp .ge 61, 3) := by decide +kernel
theorem dX9_oneTick_99 : decode cX9_oneTick 99 = .ok (.iconst 0, 1) := by decide +kernel
theorem dX9_oneTick_100 : decode cX9_oneTick 100 = .ok (.istore_n 2, 1) := by decide +kernel
theorem dX9_oneTick_101 : decode cX9_oneTick 101 = .ok (.iload_n 2, 1) := by decide +kernel
theorem dX9_oneTick_102 : decode cX9_oneTick 102 = .ok (.aload_n 0, 1) := by decide +kernel
theorem dX9_oneTick_103 : decode cX9_oneTick 103 = .ok (.getfield 126, 3) := by decide +kernel
theorem dX9_oneTick_106 : decode cX9_oneTick 106 = .ok (.if_icmp .ge 125, 3) := by decide +kernel
theorem dX9_oneTick_231 : decode cX9_oneTick 231 = .ok (.aload_n 0, 1) := by decide +kernel
theorem dX9_oneTick_232 : decode cX9_oneTick 232 = .ok (.invokevirtual 215, 3) := by decide +kernel
theorem dX9_oneTick_235 : decode cX9_oneTick 235 = .ok (.return_, 1) := by decide +kernel
theorem dX9_tick_0 : decode cX9_tick 0 = .ok (.iload_n 1, 1) := by decide +kernel
theorem dX9_tick_1 : decode cX9_tick 1 = .ok (.iconst 1, 1) := by decide +kernel
theorem dX9_tick_2 : decode cX9_tick 2 = .ok (.if_icmp .lt 10, 3) := by decide +kernel
theorem dX9_tick_5 : decode cX9_tick 5 = .ok (.iload_n 1, 1) := by decide +kernel
theorem dX9_tick_6 : decode cX9_tick 6 = .ok (.sipush 1000, 3) := by decide +kernel
theorem dX9_tick_9 : decode cX9_tick 9 = .ok (.if_icmp .le 5, 3) := by decide +kernel
theorem dX9_tick_12 : decode cX9_tick 12 = .ok (.iconst (-1), 1) := by decide +kernel
theorem dX9_tick_13 : decode cX9_tick 13 = .ok (.ireturn, 1) := by decide +kernel
theorem dX9_tick_14 : decode cX9_tick 14 = .ok (.iconst 0, 1) := by decide +kernel
theorem dX9_tick_15 : decode cX9_tick 15 = .ok (.istore_n 2, 1) := by decide +kernel
theorem dX9_tick_16 : decode cX9_tick 16 = .ok (.iload_n 2, 1) := by decide +kernel
theorem dX9_tick_17 : decode cX9_tick 17 = .ok (.iload_n 1, 1) := by decide +kernel
theorem dX9_tick_18 : decode cX9_tick 18 = .ok (.if_icmp .ge 13, 3) := by decide +kernel
theorem dX9_tick_21 : decode cX9_tick 21 = .ok (.aload_n 0, 1) := by decide +kernel
theorem dX9_tick_22 : decode cX9_tick 22 = .ok (.invokevirtual 246, 3) := by decide +kernel
theorem dX9_tick_25 : decode cX9_tick 25 = .ok (.iinc 2 1, 3) := by decide +kernel
theorem dX9_tick_28 : decode cX9_tick 28 = .ok (.goto (-12), 3) := by decide +kernel
theorem dX9_tick_31 : decode cX9_tick 31 = .ok (.aload_n 0, 1) := by decide +kernel
theorem dX9_tick_32 : decode cX9_tick 32 = .ok (.getfield 129, 3) := by decide +kernel
theorem dX9_tick_35 : decode cX9_tick 35 = .ok (.ireturn, 1) := by decide +kernel
theorem dX9_letter_0 : decode cX9_letter 0 = .ok (.aload_n 0, 1) := by decide +kernel
theorem dX9_letter_1 : decode cX9_letter 1 = .ok (.iload_n 1, 1) := by decide +kernel
theorem dX9_letter_2 : decode cX9_letter 2 = .ok (.invokevirtual 135, 3) := by decide +kernel
theorem dX9_letter_5 : decode cX9_letter 5 = .ok (.ifCond .ne 5, 3) := by decide +kernel
theorem dX9_letter_8 : decode cX9_letter 8 = .ok (.iconst (-1), 1) := by decide +kernel
theorem dX9_letter_9 : decode cX9_letter 9 = .ok (.ireturn, 1) := by decide +kernel
theorem dX9_about_0 : decode cX9_about 0 = .ok (.aload_n 0, 1) := by decide +kernel
theorem dX9_about_1 : decode cX9_about 1 = .ok (.iload_n 1, 1) := by decide +kernel
theorem dX9_about_2 : decode cX9_about 2 = .ok (.invokevirtual 135, 3) := by decide +kernel
theorem dX9_about_5 : decode cX9_about 5 = .ok (.ifCond .ne 5, 3) := by decide +kernel
theorem dX9_about_8 : decode cX9_about 8 = .ok (.iconst (-1), 1) := by decide +kernel
theorem dX9_about_9 : decode cX9_about 9 = .ok (.ireturn, 1) := by decide +kernel
theorem dX9_in_0 : decode cX9_in 0 = .ok (.iload_n 1, 1) := by decide +kernel
theorem dX9_in_1 : decode cX9_in 1 = .ok (.ifCond .lt 8, 3) := by decide +kernel
theorem dX9_in_4 : decode cX9_in 4 = .ok (.iload_n 1, 1) := by decide +kernel
theorem dX9_in_5 : decode cX9_in 5 = .ok (.iconst 5, 1) := by decide +kernel
theorem dX9_in_6 : decode cX9_in 6 = .ok (.if_icmp .le 5, 3) := by decide +kernel
theorem dX9_in_9 : decode cX9_in 9 = .ok (.iconst (-1), 1) := by decide +kernel
theorem dX9_in_10 : decode cX9_in 10 = .ok (.ireturn, 1) := by decide +kernel
theorem dX9_in_11 : decode cX9_in 11 = .ok (.iconst 0, 1) := by decide +kernel
theorem dX9_in_12 : decode cX9_in 12 = .ok (.istore_n 2, 1) := by decide +kernel
theorem dX9_in_13 : decode cX9_in 13 = .ok (.iconst 0, 1) := by decide +kernel
theorem dX9_in_14 : decode cX9_in 14 = .ok (.istore_n 3, 1) := by decide +kernel
theorem dX9_in_15 : decode cX9_in 15 = .ok (.iload_n 3, 1) := by decide +kernel
theorem dX9_in_16 : decode cX9_in 16 = .ok (.aload_n 0, 1) := by decide +kernel
theorem dX9_in_17 : decode cX9_in 17 = .ok (.getfield 126, 3) := by decide +kernel
theorem dX9_in_20 : decode cX9_in 20 = .ok (.if_icmp .ge 27, 3) := by decide +kernel
theorem dX9_in_47 : decode cX9_in 47 = .ok (.iload_n 2, 1) := by decide +kernel
theorem dX9_in_48 : decode cX9_in 48 = .ok (.ireturn, 1) := by decide +kernel
theorem dX9_count_0 : decode cX9_count 0 = .ok (.iload_n 1, 1) := by decide +kernel
theorem dX9_count_1 : decode cX9_count 1 = .ok (.tableswitch 69 0 5 #[39, 44, 49, 54, 59, 64], 39) := by decide +kernel
theorem dX9_count_40 : decode cX9_count 40 = .ok (.aload_n 0, 1) := by decide +kernel
theorem dX9_count_41 : decode cX9_count 41 = .ok (.getfield 126, 3) := by decide +kernel
theorem dX9_count_44 : decode cX9_count 44 = .ok (.ireturn, 1) := by decide +kernel
theorem dX9_count_45 : decode cX9_count 45 = .ok (.aload_n 0, 1) := by decide +kernel
theorem dX9_count_46 : decode cX9_count 46 = .ok (.getfield 153, 3) := by decide +kernel
theorem dX9_count_49 : decode cX9_count 49 = .ok (.ireturn, 1) := by decide +kernel
theorem dX9_count_50 : decode cX9_count 50 = .ok (.aload_n 0, 1) := by decide +kernel
theorem dX9_count_51 : decode cX9_count 51 = .ok (.invokevirtual 143, 3) := by decide +kernel
theorem dX9_count_54 : decode cX9_count 54 = .ok (.ireturn, 1) := by decide +kernel
theorem dX9_count_55 : decode cX9_count 55 = .ok (.aload_n 0, 1) := by decide +kernel
theorem dX9_count_56 : decode cX9_count 56 = .ok (.getfield 129, 3) := by decide +kernel
theorem dX9_count_59 : decode cX9_count 59 = .ok (.ireturn, 1) := by decide +kernel
theorem dX9_count_60 : decode cX9_count 60 = .ok (.aload_n 0, 1) := by decide +kernel
theorem dX9_count_61 : decode cX9_count 61 = .ok (.getfield 249, 3) := by decide +kernel
theorem dX9_count_64 : decode cX9_count 64 = .ok (.ireturn, 1) := by decide +kernel
theorem dX9_count_65 : decode cX9_count 65 = .ok (.aload_n 0, 1) := by decide +kernel
theorem dX9_count_66 : decode cX9_count 66 = .ok (.getfield 243, 3) := by decide +kernel
theorem dX9_count_69 : decode cX9_count 69 = .ok (.ireturn, 1) := by decide +kernel
theorem dX9_count_70 : decode cX9_count 70 = .ok (.iconst (-1), 1) := by decide +kernel
theorem dX9_count_71 : decode cX9_count 71 = .ok (.ireturn, 1) := by decide +kernel
theorem dX9_related_0 : decode cX9_related 0 = .ok (.aload_n 0, 1) := by decide +kernel
theorem dX9_related_1 : decode cX9_related 1 = .ok (.iload_n 1, 1) := by decide +kernel
theorem dX9_related_2 : decode cX9_related 2 = .ok (.iload_n 2, 1) := by decide +kernel
theorem dX9_related_3 : decode cX9_related 3 = .ok (.iload_n 3, 1) := by decide +kernel
theorem dX9_related_4 : decode cX9_related 4 = .ok (.invokevirtual 139, 3) := by decide +kernel
theorem dX9_related_7 : decode cX9_related 7 = .ok (.ifCond .eq 21, 3) := by decide +kernel
theorem dX9_related_28 : decode cX9_related 28 = .ok (.iconst (-1), 1) := by decide +kernel
theorem dX9_related_29 : decode cX9_related 29 = .ok (.ireturn, 1) := by decide +kernel
theorem dX9_waits_0 : decode cX9_waits 0 = .ok (.aload_n 0, 1) := by decide +kernel
theorem dX9_waits_1 : decode cX9_waits 1 = .ok (.iload_n 1, 1) := by decide +kernel
theorem dX9_waits_2 : decode cX9_waits 2 = .ok (.invokevirtual 135, 3) := by decide +kernel
theorem dX9_waits_5 : decode cX9_waits 5 = .ok (.ifCond .eq 12, 3) := by decide +kernel
theorem dX9_waits_17 : decode cX9_waits 17 = .ok (.iconst (-1), 1) := by decide +kernel
theorem dX9_waits_18 : decode cX9_waits 18 = .ok (.ireturn, 1) := by decide +kernel
theorem dX9_plan_0 : decode cX9_plan 0 = .ok (.iload_n 1, 1) := by decide +kernel
theorem dX9_plan_1 : decode cX9_plan 1 = .ok (.ifCond .lt 16, 3) := by decide +kernel
theorem dX9_plan_4 : decode cX9_plan 4 = .ok (.iload_n 1, 1) := by decide +kernel
theorem dX9_plan_5 : decode cX9_plan 5 = .ok (.iconst 2, 1) := by decide +kernel
theorem dX9_plan_6 : decode cX9_plan 6 = .ok (.if_icmp .gt 11, 3) := by decide +kernel
theorem dX9_plan_9 : decode cX9_plan 9 = .ok (.aload_n 0, 1) := by decide +kernel
theorem dX9_plan_10 : decode cX9_plan 10 = .ok (.iload_n 2, 1) := by decide +kernel
theorem dX9_plan_11 : decode cX9_plan 11 = .ok (.invokevirtual 135, 3) := by decide +kernel
theorem dX9_plan_14 : decode cX9_plan 14 = .ok (.ifCond .ne 5, 3) := by decide +kernel
theorem dX9_plan_17 : decode cX9_plan 17 = .ok (.iconst (-1), 1) := by decide +kernel
theorem dX9_plan_18 : decode cX9_plan 18 = .ok (.ireturn, 1) := by decide +kernel
theorem dX9_planned_0 : decode cX9_planned 0 = .ok (.iload_n 1, 1) := by decide +kernel
theorem dX9_planned_1 : decode cX9_planned 1 = .ok (.ifCond .lt 20, 3) := by decide +kernel
theorem dX9_planned_4 : decode cX9_planned 4 = .ok (.iload_n 1, 1) := by decide +kernel
theorem dX9_planned_5 : decode cX9_planned 5 = .ok (.aload_n 0, 1) := by decide +kernel
theorem dX9_planned_6 : decode cX9_planned 6 = .ok (.getfield 258, 3) := by decide +kernel
theorem dX9_planned_9 : decode cX9_planned 9 = .ok (.if_icmp .ge 12, 3) := by decide +kernel
theorem dX9_planned_21 : decode cX9_planned 21 = .ok (.iconst (-1), 1) := by decide +kernel
theorem dX9_planned_22 : decode cX9_planned 22 = .ok (.ireturn, 1) := by decide +kernel
theorem dX9_quick_0 : decode cX9_quick 0 = .ok (.aload_n 0, 1) := by decide +kernel
theorem dX9_quick_1 : decode cX9_quick 1 = .ok (.getfield 107, 3) := by decide +kernel
theorem dX9_quick_4 : decode cX9_quick 4 = .ok (.ireturn, 1) := by decide +kernel
theorem dX9_ring_0 : decode cX9_ring 0 = .ok (.aload_n 0, 1) := by decide +kernel
theorem dX9_ring_1 : decode cX9_ring 1 = .ok (.getfield 197, 3) := by decide +kernel
theorem dX9_ring_4 : decode cX9_ring 4 = .ok (.ireturn, 1) := by decide +kernel
theorem dX9_changes_0 : decode cX9_changes 0 = .ok (.aload_n 0, 1) := by decide +kernel
theorem dX9_changes_1 : decode cX9_changes 1 = .ok (.getfield 132, 3) := by decide +kernel
theorem dX9_changes_4 : decode cX9_changes 4 = .ok (.ireturn, 1) := by decide +kernel
theorem dX9_change_0 : decode cX9_change 0 = .ok (.iload_n 1, 1) := by decide +kernel
theorem dX9_change_1 : decode cX9_change 1 = .ok (.ifCond .lt 32, 3) := by decide +kernel
theorem dX9_change_4 : decode cX9_change 4 = .ok (.iload_n 1, 1) := by decide +kernel
theorem dX9_change_5 : decode cX9_change 5 = .ok (.aload_n 0, 1) := by decide +kernel
theorem dX9_change_6 : decode cX9_change 6 = .ok (.getfield 132, 3) := by decide +kernel
theorem dX9_change_9 : decode cX9_change 9 = .ok (.if_icmp .ge 24, 3) := by decide +kernel
theorem dX9_change_33 : decode cX9_change 33 = .ok (.iconst (-1), 1) := by decide +kernel
theorem dX9_change_34 : decode cX9_change 34 = .ok (.ireturn, 1) := by decide +kernel
theorem dX9_check_0 : decode cX9_check 0 = .ok (.iconst 0, 1) := by decide +kernel
theorem dX9_check_1 : decode cX9_check 1 = .ok (.istore_n 1, 1) := by decide +kernel
theorem dX9_check_2 : decode cX9_check 2 = .ok (.iconst 0, 1) := by decide +kernel
theorem dX9_check_3 : decode cX9_check 3 = .ok (.istore_n 2, 1) := by decide +kernel
theorem dX9_check_4 : decode cX9_check 4 = .ok (.iconst 0, 1) := by decide +kernel
theorem dX9_check_5 : decode cX9_check 5 = .ok (.istore_n 3, 1) := by decide +kernel
theorem dX9_check_6 : decode cX9_check 6 = .ok (.iload_n 3, 1) := by decide +kernel
theorem dX9_check_7 : decode cX9_check 7 = .ok (.aload_n 0, 1) := by decide +kernel
theorem dX9_check_8 : decode cX9_check 8 = .ok (.getfield 126, 3) := by decide +kernel
theorem dX9_check_11 : decode cX9_check 11 = .ok (.if_icmp .ge 128, 3) := by decide +kernel
theorem dX9_check_139 : decode cX9_check 139 = .ok (.iload_n 1, 1) := by decide +kernel
theorem dX9_check_140 : decode cX9_check 140 = .ok (.ifCond .eq 7, 3) := by decide +kernel
theorem dX9_check_147 : decode cX9_check 147 = .ok (.iconst 0, 1) := by decide +kernel
theorem dX9_check_148 : decode cX9_check 148 = .ok (.iload_n 2, 1) := by decide +kernel
theorem dX9_check_149 : decode cX9_check 149 = .ok (.ifCond .eq 7, 3) := by decide +kernel
theorem dX9_check_156 : decode cX9_check 156 = .ok (.iconst 0, 1) := by decide +kernel
theorem dX9_check_157 : decode cX9_check 157 = .ok (.iadd, 1) := by decide +kernel
theorem dX9_check_158 : decode cX9_check 158 = .ok (.ireturn, 1) := by decide +kernel
def wq_is : List Cond := [.code yX9_is cX9_is 2 (some .boolean), .fieldLink RX9 126 "ServiceTreeModel" "services" "I"] ++ (wsX90)
theorem in_is_X9 : ∀ w ∈ wsX90, w ∈ wq_is := fun _ h => List.mem_append_right _ (h)
set_option maxRecDepth 20000 in
theorem wi_is : ∀ w ∈ wq_is, w ∈ lw_tbl := List.forall_mem_append.mpr ⟨(by decide +kernel), inKX9⟩
set_option maxRecDepth 20000 in
theorem wg_is : GoodIn wq_is wq_is := goodIn_sub (fun _ h => h) (by decide +kernel)
set_option maxHeartbeats 4000000 in
set_option maxRecDepth 100000 in
theorem c_is (l : Launch) (dC : Nat → ClassId) (dI : Nat → Nat → Nat) (h0 : Nat) (a : Nat → Nat) (tk : Int32) (p0 : Int32) (sz : Nat) : Met l yX9_is wq_is ({ frames := 0, cells := 0, slots := 0, locals := 0 }) (va_Pc [.ref h0, .int p0] (fun U => U.heap.size = sz ∧ va_P (dC, dI) vwCl [(h0, .inr (10, [.ref (a 0), .ref (a 1), .ref (a 2), .ref (a 3), .ref (a 4), .ref (a 5), .ref (a 6), .ref (a 7), .ref (a 8), .ref (a 9), .ref (a 10), .ref (a 11), .ref (a 12), .ref (a 13), .ref (a 14), .ref (a 15), .ref (a 16), .ref (a 17), .ref (a 18), .ref (a 19), .int 0, .int 0, .int tk, .int 0, .int 0, .ref (a 25), .ref (a 26), .ref (a 27), .ref (a 28), .ref (a 29), .ref (a 30), .ref (a 31), .ref (a 32), .int 0, .ref (a 34), .ref (a 35), .ref (a 36), .ref (a 37), .int 0, .int (-1), .ref (a 40), .ref (a 41), .ref (a 42), .ref (a 43), .ref (a 44), .int 0]))] U.heap ∧ va_K (dC, dI) vwCl [] U ∧ va_D (fun _ => True) [(h0, .inr (10, [.ref (a 0), .ref (a 1), .ref (a 2), .ref (a 3), .ref (a 4), .ref (a 5), .ref (a 6), .ref (a 7), .ref (a 8), .ref (a 9), .ref (a 10), .ref (a 11), .ref (a 12), .ref (a 13), .ref (a 14), .ref (a 15), .ref (a 16), .ref (a 17), .ref (a 18), .ref (a 19), .int 0, .int 0, .int tk, .int 0, .int 0, .ref (a 25), .ref (a 26), .ref (a 27), .ref (a 28), .ref (a 29), .ref (a 30), .ref (a 31), .ref (a 32), .int 0, .ref (a 34), .ref (a 35), .ref (a 36), .ref (a 37), .int 0, .int (-1), .ref (a 40), .ref (a 41), .ref (a 42), .ref (a 43), .ref (a 44), .int 0]))] ∧ pw_N U)) (va_Qi (fun (r : Int32) (_ : Unit) => r = 0) (fun (_ : Unit) (t : State) => va_P (dC, dI) vwCl [(h0, .inr (10, [.ref (a 0), .ref (a 1), .ref (a 2), .ref (a 3), .ref (a 4), .ref (a 5), .ref (a 6), .ref (a 7), .ref (a 8), .ref (a 9), .ref (a 10), .ref (a 11), .ref (a 12), .ref (a 13), .ref (a 14), .ref (a 15), .ref (a 16), .ref (a 17), .ref (a 18), .ref (a 19), .int 0, .int 0, .int tk, .int 0, .int 0, .ref (a 25), .ref (a 26), .ref (a 27), .ref (a 28), .ref (a 29), .ref (a 30), .ref (a 31), .ref (a 32), .int 0, .ref (a 34), .ref (a 35), .ref (a 36), .ref (a 37), .int 0, .int (-1), .ref (a 40), .ref (a 41), .ref (a 42), .ref (a 43), .ref (a 44), .int 0]))] t.heap ∧ va_D (va_A [(h0, .inr (10, [.ref (a 0), .ref (a 1), .ref (a 2), .ref (a 3), .ref (a 4), .ref (a 5), .ref (a 6), .ref (a 7), .ref (a 8), .ref (a 9), .ref (a 10), .ref (a 11), .ref (a 12), .ref (a 13), .ref (a 14), .ref (a 15), .ref (a 16), .ref (a 17), .ref (a 18), .ref (a 19), .int 0, .int 0, .int tk, .int 0, .int 0, .ref (a 25), .ref (a 26), .ref (a 27), .ref (a 28), .ref (a 29), .ref (a 30), .ref (a 31), .ref (a 32), .int 0, .ref (a 34), .ref (a 35), .ref (a 36), .ref (a 37), .int 0, .int (-1), .ref (a 40), .ref (a 41), .ref (a 42), .ref (a 43), .ref (a 44), .int 0]))] sz) [(h0, .inr (10, [.ref (a 0), .ref (a 1), .ref (a 2), .ref (a 3), .ref (a 4), .ref (a 5), .ref (a 6), .ref (a 7), .ref (a 8), .ref (a 9), .ref (a 10), .ref (a 11), .ref (a 12), .ref (a 13), .ref (a 14), .ref (a 15), .ref (a 16), .ref (a 17), .ref (a 18), .ref (a 19), .int 0, .int 0, .int tk, .int 0, .int 0, .ref (a 25), .ref (a 26), .ref (a 27), .ref (a 28), .ref (a 29), .ref (a 30), .ref (a 31), .ref (a 32), .int 0, .ref (a 34), .ref (a 35), .ref (a 36), .ref (a 37), .int 0, .int (-1), .ref (a 40), .ref (a 41), .ref (a 42), .ref (a 43), .ref (a 44), .int 0]))]) (va_A [(h0, .inr (10, [.ref (a 0), .ref (a 1), .ref (a 2), .ref (a 3), .ref (a 4), .ref (a 5), .ref (a 6), .ref (a 7), .ref (a 8), .ref (a 9), .ref (a 10), .ref (a 11), .ref (a 12), .ref (a 13), .ref (a 14), .ref (a 15), .ref (a 16), .ref (a 17), .ref (a 18), .ref (a 19), .int 0, .int 0, .int tk, .int 0, .int 0, .ref (a 25), .ref (a 26), .ref (a 27), .ref (a 28), .ref (a 29), .ref (a 30), .ref (a 31), .ref (a 32), .int 0, .ref (a 34), .ref (a 35), .ref (a 36), .ref (a 37), .int 0, .int (-1), .ref (a 40), .ref (a 41), .ref (a 42), .ref (a 43), .ref (a 44), .int 0]))] sz)) 0 0 (va_A [(h0, .inr (10, [.ref (a 0), .ref (a 1), .ref (a 2), .ref (a 3), .ref (a 4), .ref (a 5), .ref (a 6), .ref (a 7), .ref (a 8), .ref (a 9), .ref (a 10), .ref (a 11), .ref (a 12), .ref (a 13), .ref (a 14), .ref (a 15), .ref (a 16), .ref (a 17), .ref (a 18), .ref (a 19), .int 0, .int 0, .int tk, .int 0, .int 0, .ref (a 25), .ref (a 26), .ref (a 27), .ref (a 28), .ref (a 29), .ref (a 30), .ref (a 31), .ref (a 32), .int 0, .ref (a 34), .ref (a 35), .ref (a 36), .ref (a 37), .int 0, .int (-1), .ref (a 40), .ref (a 41), .ref (a 42), .ref (a 43), .ref (a 44), .int 0]))] sz) := by
  refine Met.ofW (cc := cX9_is) (maxL := 2) (ret := (some .boolean)) (by decide) rfl ?_
  intro p e s m args below meth c s₁ B hml hv
  obtain ⟨rfl, hsz, hP, hK, hD0, hN⟩ := hv
  have hx := B.exec
  have hb := B.bytes
  have hr := B.returns
  have hts := atoms_spec (ws := wq_is) B.pre
  have hown : s.vm.findClass RX9 = some m.cls := findClass_of_methodNamed B.named
  have hlocks := B.notSynchronized
  subst hsz
  have hD := hD0.self (sz := s.heap.size)
  generalize hAe : va_A [(h0, .inr (10, [.ref (a 0), .ref (a 1), .ref (a 2), .ref (a 3), .ref (a 4), .ref (a 5), .ref (a 6), .ref (a 7), .ref (a 8), .ref (a 9), .ref (a 10), .ref (a 11), .ref (a 12), .ref (a 13), .ref (a 14), .ref (a 15), .ref (a 16), .ref (a 17), .ref (a 18), .ref (a 19), .int 0, .int 0, .int tk, .int 0, .int 0, .ref (a 25), .ref (a 26), .ref (a 27), .ref (a 28), .ref (a 29), .ref (a 30), .ref (a 31), .ref (a 32), .int 0, .ref (a 34), .ref (a 35), .ref (a 36), .ref (a 37), .int 0, .int (-1), .ref (a 40), .ref (a 41), .ref (a 42), .ref (a 43), .ref (a 44), .int 0]))] s.heap.size = A at hD ⊢
  have hA : ∀ q : Nat, s.heap.size ≤ q → A q := fun q h => by rw [← hAe]; exact Or.inr h
  have hS : va_S A s.heap s.heap [] := va_S.rf
  have hP : va_P (dC, dI) vwCl [(h0, .inr (10, [.ref (a 0), .ref (a 1), .ref (a 2), .ref (a 3), .ref (a 4), .ref (a 5), .ref (a 6), .ref (a 7), .ref (a 8), .ref (a 9), .ref (a 10), .ref (a 11), .ref (a 12), .ref (a 13), .ref (a 14), .ref (a 15), .ref (a 16), .ref (a 17), .ref (a 18), .ref (a 19), .int 0, .int 0, .int tk, .int 0, .int 0, .ref (a 25), .ref (a 26), .ref (a 27), .ref (a 28), .ref (a 29), .ref (a 30), .ref (a 31), .ref (a 32), .int 0, .ref (a 34), .ref (a 35), .ref (a 36), .ref (a 37), .int 0, .int (-1), .ref (a 40), .ref (a 41), .ref (a 42), .ref (a 43), .ref (a 44), .int 0]))] s.heap := hP
  have hl := lv_entry ([.ref h0, .int p0]) (n := 2) (Nat.le_of_ble_eq_true rfl)
  rw [lg_entry_eq]
  generalize (lg_sl ([.ref h0, .int p0]) ++ List.replicate (2 - (lg_sl ([.ref h0, .int p0])).length) Slot.unset).toArray = ls at hl ⊢
  have hl : lv_has ls 2 [(0, .ref h0), (1, .int p0)] := hl
  refine lv_iload_n hx hb dX9_is_0 rfl (lv_at hl 1 rfl) ?_
  refine lv_if_lt (tgt := 16) hx hb dX9_is_1 (by decide) (fun c_1 => ?_) (fun c_1 => ?_)
  · refine lv_iconst (v := 0) hx hb dX9_is_16 (by decide) ?_
    have hP9 := hP.sub (ws' := [(h0, .inr (10, [.ref (a 0), .ref (a 1), .ref (a 2), .ref (a 3), .ref (a 4), .ref (a 5), .ref (a 6), .ref (a 7), .ref (a 8), .ref (a 9), .ref (a 10), .ref (a 11), .ref (a 12), .ref (a 13), .ref (a 14), .ref (a 15), .ref (a 16), .ref (a 17), .ref (a 18), .ref (a 19), .int 0, .int 0, .int tk, .int 0, .int 0, .ref (a 25), .ref (a 26), .ref (a 27), .ref (a 28), .ref (a 29), .ref (a 30), .ref (a 31), .ref (a 32), .int 0, .ref (a 34), .ref (a 35), .ref (a 36), .ref (a 37), .int 0, .int (-1), .ref (a 40), .ref (a 41), .ref (a 42), .ref (a 43), .ref (a 44), .int 0]))]) [0] rfl
    have hD9 := hD.sub (ws' := [(h0, .inr (10, [.ref (a 0), .ref (a 1), .ref (a 2), .ref (a 3), .ref (a 4), .ref (a 5), .ref (a 6), .ref (a 7), .ref (a 8), .ref (a 9), .ref (a 10), .ref (a 11), .ref (a 12), .ref (a 13), .ref (a 14), .ref (a 15), .ref (a 16), .ref (a 17), .ref (a 18), .ref (a 19), .int 0, .int 0, .int tk, .int 0, .int 0, .ref (a 25), .ref (a 26), .ref (a 27), .ref (a 28), .ref (a 29), .ref (a 30), .ref (a 31), .ref (a 32), .int 0, .ref (a 34), .ref (a 35), .ref (a 36), .ref (a 37), .int 0, .int (-1), .ref (a 40), .ref (a 41), .ref (a 42), .ref (a 43), .ref (a 44), .int 0]))]) [0] (by decide) rfl
    exact W.zret (v := 0) hx hb hr (by decide) (fun t ht hW => ⟨⟨0, (), rfl, rfl, by rw [ht]; exact hP9, hD9⟩, hS.F ht⟩) hS.2.2 dX9_is_17
  · refine lv_iload_n hx hb dX9_is_4 rfl (lv_at hl 1 rfl) ?_
    refine lv_aload_n hx hb dX9_is_5 rfl (lv_at hl 0 rfl) ?_
    refine va_get (D := (dC, dI)) (ci := 10) (v := .int 0) (C := RX9) (T := TX9) (N := 46) hx hb hts in_is_X9 hown hK hP 0 rfl rfl 21 (by decide) (hts (.fieldLink RX9 126 "ServiceTreeModel" "services" "I") (by decide +kernel)) (fun _ h9 => h9) rfl dX9_is_6 ?_
    refine lv_icmp_ge (tgt := 16) hx hb dX9_is_9 (by decide) (fun c_2 => ?_) (fun c_2 => ?_)
    · refine lv_iconst (v := 0) hx hb dX9_is_16 (by decide) ?_
      have hP9 := hP.sub (ws' := [(h0, .inr (10, [.ref (a 0), .ref (a 1), .ref (a 2), .ref (a 3), .ref (a 4), .ref (a 5), .ref (a 6), .ref (a 7), .ref (a 8), .ref (a 9), .ref (a 10), .ref (a 11), .ref (a 12), .ref (a 13), .ref (a 14), .ref (a 15), .ref (a 16), .ref (a 17), .ref (a 18), .ref (a 19), .int 0, .int 0, .int tk, .int 0, .int 0, .ref (a 25), .ref (a 26), .ref (a 27), .ref (a 28), .ref (a 29), .ref (a 30), .ref (a 31), .ref (a 32), .int 0, .ref (a 34), .ref (a 35), .ref (a 36), .ref (a 37), .int 0, .int (-1), .ref (a 40), .ref (a 41), .ref (a 42), .ref (a 43), .ref (a 44), .int 0]))]) [0] rfl
      have hD9 := hD.sub (ws' := [(h0, .inr (10, [.ref (a 0), .ref (a 1), .ref (a 2), .ref (a 3), .ref (a 4), .ref (a 5), .ref (a 6), .ref (a 7), .ref (a 8), .ref (a 9), .ref (a 10), .ref (a 11), .ref (a 12), .ref (a 13), .ref (a 14), .ref (a 15), .ref (a 16), .ref (a 17), .ref (a 18), .ref (a 19), .int 0, .int 0, .int tk, .int 0, .int 0, .ref (a 25), .ref (a 26), .ref (a 27), .ref (a 28), .ref (a 29), .ref (a 30), .ref (a 31), .ref (a 32), .int 0, .ref (a 34), .ref (a 35), .ref (a 36), .ref (a 37), .int 0, .int (-1), .ref (a 40), .ref (a 41), .ref (a 42), .ref (a 43), .ref (a 44), .int 0]))]) [0] (by decide) rfl
      exact W.zret (v := 0) hx hb hr (by decide) (fun t ht hW => ⟨⟨0, (), rfl, rfl, by rw [ht]; exact hP9, hD9⟩, hS.F ht⟩) hS.2.2 dX9_is_17
    · exact False.elim (by have k0 := c_1; have k1 := c_2; simp only [p1_le, p1_lt, p1_eq, p1_m6, p1_m1, p1_0, p1_1, p1_2, p1_3, p1_4, p1_5, p1_6, p1_7, p1_8, p1_9, p1_10, p1_11, p1_12, p1_13, p1_14, p1_15, p1_16, p1_17, p1_18, p1_19, p1_20, p1_40, p1_50, p1_200, p1_1000] at k0 k1; omega)
def wq_isPair : List Cond := [.code yX9_isPair cX9_isPair 4 (some .boolean), .methodLink RX9 135 yX9_is, .instanceMethod yX9_is, .selects RX9 yX9_is yX9_is, .initialized RX9] ++ (wq_is)
set_option maxRecDepth 20000 in
theorem wi_isPair : ∀ w ∈ wq_isPair, w ∈ lw_tbl := List.forall_mem_append.mpr ⟨(by decide +kernel), wi_is⟩
set_option maxRecDepth 20000 in
theorem wg_isPair : GoodIn wq_isPair wq_isPair := goodIn_sub (fun _ h => h) (by decide +kernel)
set_option maxRecDepth 20000 in
theorem wc_isPair_is_135 : GoodIn wq_isPair (wsV RX9 135 RX9 yX9_is wq_is) := goodIn_app (goodIn_of _ (by decide +kernel)) (fun w h => ⟨List.mem_append_right _ (h), (wg_is w h).2⟩)
set_option maxHeartbeats 4000000 in
set_option maxRecDepth 100000 in
theorem c_isPair (l : Launch) (dC : Nat → ClassId) (dI : Nat → Nat → Nat) (h0 : Nat) (a : Nat → Nat) (tk : Int32) (p0 : Int32) (p1 : Int32) (p2 : Int32) (sz : Nat) : Met l yX9_isPair wq_isPair ({ frames := 1, cells := 0, slots := 0, locals := 21 }) (va_Pc [.ref h0, .int p0, .int p1, .int p2] (fun U => U.heap.size = sz ∧ va_P (dC, dI) vwCl [(h0, .inr (10, [.ref (a 0), .ref (a 1), .ref (a 2), .ref (a 3), .ref (a 4), .ref (a 5), .ref (a 6), .ref (a 7), .ref (a 8), .ref (a 9), .ref (a 10), .ref (a 11), .ref (a 12), .ref (a 13), .ref (a 14), .ref (a 15), .ref (a 16), .ref (a 17), .ref (a 18), .ref (a 19), .int 0, .int 0, .int tk, .int 0, .int 0, .ref (a 25), .ref (a 26), .ref (a 27), .ref (a 28), .ref (a 29), .ref (a 30), .ref (a 31), .ref (a 32), .int 0, .ref (a 34), .ref (a 35), .ref (a 36), .ref (a 37), .int 0, .int (-1), .ref (a 40), .ref (a 41), .ref (a 42), .ref (a 43), .ref (a 44), .int 0]))] U.heap ∧ va_K (dC, dI) vwCl [] U ∧ va_D (fun _ => True) [(h0, .inr (10, [.ref (a 0), .ref (a 1), .ref (a 2), .ref (a 3), .ref (a 4), .ref (a 5), .ref (a 6), .ref (a 7), .ref (a 8), .ref (a 9), .ref (a 10), .ref (a 11), .ref (a 12), .ref (a 13), .ref (a 14), .ref (a 15), .ref (a 16), .ref (a 17), .ref (a 18), .ref (a 19), .int 0, .int 0, .int tk, .int 0, .int 0, .ref (a 25), .ref (a 26), .ref (a 27), .ref (a 28), .ref (a 29), .ref (a 30), .ref (a 31), .ref (a 32), .int 0, .ref (a 34), .ref (a 35), .ref (a 36), .ref (a 37), .int 0, .int (-1), .ref (a 40), .ref (a 41), .ref (a 42), .ref (a 43), .ref (a 44), .int 0]))] ∧ pw_N U)) (va_Qi (fun (r : Int32) (_ : Unit) => r = 0) (fun (_ : Unit) (t : State) => va_P (dC, dI) vwCl [(h0, .inr (10, [.ref (a 0), .ref (a 1), .ref (a 2), .ref (a 3), .ref (a 4), .ref (a 5), .ref (a 6), .ref (a 7), .ref (a 8), .ref (a 9), .ref (a 10), .ref (a 11), .ref (a 12), .ref (a 13), .ref (a 14), .ref (a 15), .ref (a 16), .ref (a 17), .ref (a 18), .ref (a 19), .int 0, .int 0, .int tk, .int 0, .int 0, .ref (a 25), .ref (a 26), .ref (a 27), .ref (a 28), .ref (a 29), .ref (a 30), .ref (a 31), .ref (a 32), .int 0, .ref (a 34), .ref (a 35), .ref (a 36), .ref (a 37), .int 0, .int (-1), .ref (a 40), .ref (a 41), .ref (a 42), .ref (a 43), .ref (a 44), .int 0]))] t.heap ∧ va_D (va_A [(h0, .inr (10, [.ref (a 0), .ref (a 1), .ref (a 2), .ref (a 3), .ref (a 4), .ref (a 5), .ref (a 6), .ref (a 7), .ref (a 8), .ref (a 9), .ref (a 10), .ref (a 11), .ref (a 12), .ref (a 13), .ref (a 14), .ref (a 15), .ref (a 16), .ref (a 17), .ref (a 18), .ref (a 19), .int 0, .int 0, .int tk, .int 0, .int 0, .ref (a 25), .ref (a 26), .ref (a 27), .ref (a 28), .ref (a 29), .ref (a 30), .ref (a 31), .ref (a 32), .int 0, .ref (a 34), .ref (a 35), .ref (a 36), .ref (a 37), .int 0, .int (-1), .ref (a 40), .ref (a 41), .ref (a 42), .ref (a 43), .ref (a 44), .int 0]))] sz) [(h0, .inr (10, [.ref (a 0), .ref (a 1), .ref (a 2), .ref (a 3), .ref (a 4), .ref (a 5), .ref (a 6), .ref (a 7), .ref (a 8), .ref (a 9), .ref (a 10), .ref (a 11), .ref (a 12), .ref (a 13), .ref (a 14), .ref (a 15), .ref (a 16), .ref (a 17), .ref (a 18), .ref (a 19), .int 0, .int 0, .int tk, .int 0, .int 0, .ref (a 25), .ref (a 26), .ref (a 27), .ref (a 28), .ref (a 29), .ref (a 30), .ref (a 31), .ref (a 32), .int 0, .ref (a 34), .ref (a 35), .ref (a 36), .ref (a 37), .int 0, .int (-1), .ref (a 40), .ref (a 41), .ref (a 42), .ref (a 43), .ref (a 44), .int 0]))]) (va_A [(h0, .inr (10, [.ref (a 0), .ref (a 1), .ref (a 2), .ref (a 3), .ref (a 4), .ref (a 5), .ref (a 6), .ref (a 7), .ref (a 8), .ref (a 9), .ref (a 10), .ref (a 11), .ref (a 12), .ref (a 13), .ref (a 14), .ref (a 15), .ref (a 16), .ref (a 17), .ref (a 18), .ref (a 19), .int 0, .int 0, .int tk, .int 0, .int 0, .ref (a 25), .ref (a 26), .ref (a 27), .ref (a 28), .ref (a 29), .ref (a 30), .ref (a 31), .ref (a 32), .int 0, .ref (a 34), .ref (a 35), .ref (a 36), .ref (a 37), .int 0, .int (-1), .ref (a 40), .ref (a 41), .ref (a 42), .ref (a 43), .ref (a 44), .int 0]))] sz)) 0 0 (va_A [(h0, .inr (10, [.ref (a 0), .ref (a 1), .ref (a 2), .ref (a 3), .ref (a 4), .ref (a 5), .ref (a 6), .ref (a 7), .ref (a 8), .ref (a 9), .ref (a 10), .ref (a 11), .ref (a 12), .ref (a 13), .ref (a 14), .ref (a 15), .ref (a 16), .ref (a 17), .ref (a 18), .ref (a 19), .int 0, .int 0, .int tk, .int 0, .int 0, .ref (a 25), .ref (a 26), .ref (a 27), .ref (a 28), .ref (a 29), .ref (a 30), .ref (a 31), .ref (a 32), .int 0, .ref (a 34), .ref (a 35), .ref (a 36), .ref (a 37), .int 0, .int (-1), .ref (a 40), .ref (a 41), .ref (a 42), .ref (a 43), .ref (a 44), .int 0]))] sz) := by
  refine Met.ofW (cc := cX9_isPair) (maxL := 4) (ret := (some .boolean)) (by decide) rfl ?_
  intro p e s m args below meth c s₁ B hml hv
  obtain ⟨rfl, hsz, hP, hK, hD0, hN⟩ := hv
  have hx := B.exec
  have hb := B.bytes
  have hr := B.returns
  have hts := atoms_spec (ws := wq_isPair) B.pre
  have hown : s.vm.findClass RX9 = some m.cls := findClass_of_methodNamed B.named
  have hlocks := B.notSynchronized
  subst hsz
  have hD := hD0.self (sz := s.heap.size)
  generalize hAe : va_A [(h0, .inr (10, [.ref (a 0), .ref (a 1), .ref (a 2), .ref (a 3), .ref (a 4), .ref (a 5), .ref (a 6), .ref (a 7), .ref (a 8), .ref (a 9), .ref (a 10), .ref (a 11), .ref (a 12), .ref (a 13), .ref (a 14), .ref (a 15), .ref (a 16), .ref (a 17), .ref (a 18), .ref (a 19), .int 0, .int 0, .int tk, .int 0, .int 0, .ref (a 25), .ref (a 26), .ref (a 27), .ref (a 28), .ref (a 29), .ref (a 30), .ref (a 31), .ref (a 32), .int 0, .ref (a 34), .ref (a 35), .ref (a 36), .ref (a 37), .int 0, .int (-1), .ref (a 40), .ref (a 41), .ref (a 42), .ref (a 43), .ref (a 44), .int 0]))] s.heap.size = A at hD ⊢
  have hA : ∀ q : Nat, s.heap.size ≤ q → A q := fun q h => by rw [← hAe]; exact Or.inr h
  have hS : va_S A s.heap s.heap [] := va_S.rf
  have hP : va_P (dC, dI) vwCl [(h0, .inr (10, [.ref (a 0), .ref (a 1), .ref (a 2), .ref (a 3), .ref (a 4), .ref (a 5), .ref (a 6), .ref (a 7), .ref (a 8), .ref (a 9), .ref (a 10), .ref (a 11), .ref (a 12), .ref (a 13), .ref (a 14), .ref (a 15), .ref (a 16), .ref (a 17), .ref (a 18), .ref (a 19), .int 0, .int 0, .int tk, .int 0, .int 0, .ref (a 25), .ref (a 26), .ref (a 27), .ref (a 28), .ref (a 29), .ref (a 30), .ref (a 31), .ref (a 32), .int 0, .ref (a 34), .ref (a 35), .ref (a 36), .ref (a 37), .int 0, .int (-1), .ref (a 40), .ref (a 41), .ref (a 42), .ref (a 43), .ref (a 44), .int 0]))] s.heap := hP
  have hl := lv_entry ([.ref h0, .int p0, .int p1, .int p2]) (n := 4) (Nat.le_of_ble_eq_true rfl)
  rw [lg_entry_eq]
  generalize (lg_sl ([.ref h0, .int p0, .int p1, .int p2]) ++ List.replicate (4 - (lg_sl ([.ref h0, .int p0, .int p1, .int p2])).length) Slot.unset).toArray = ls at hl ⊢
  have hl : lv_has ls 4 [(0, .ref h0), (1, .int p0), (2, .int p1), (3, .int p2)] := hl
  refine lv_iload_n hx hb dX9_isPair_0 rfl (lv_at hl 1 rfl) ?_
  refine lv_if_lt (tgt := 34) hx hb dX9_isPair_1 (by decide) (fun c_1 => ?_) (fun c_1 => ?_)
  · refine lv_iconst (v := 0) hx hb dX9_isPair_34 (by decide) ?_
    have hP9 := hP.sub (ws' := [(h0, .inr (10, [.ref (a 0), .ref (a 1), .ref (a 2), .ref (a 3), .ref (a 4), .ref (a 5), .ref (a 6), .ref (a 7), .ref (a 8), .ref (a 9), .ref (a 10), .ref (a 11), .ref (a 12), .ref (a 13), .ref (a 14), .ref (a 15), .ref (a 16), .ref (a 17), .ref (a 18), .ref (a 19), .int 0, .int 0, .int tk, .int 0, .int 0, .ref (a 25), .ref (a 26), .ref (a 27), .ref (a 28), .ref (a 29), .ref (a 30), .ref (a 31), .ref (a 32), .int 0, .ref (a 34), .ref (a 35), .ref (a 36), .ref (a 37), .int 0, .int (-1), .ref (a 40), .ref (a 41), .ref (a 42), .ref (a 43), .ref (a 44), .int 0]))]) [0] rfl
    have hD9 := hD.sub (ws' := [(h0, .inr (10, [.ref (a 0), .ref (a 1), .ref (a 2), .ref (a 3), .ref (a 4), .ref (a 5), .ref (a 6), .ref (a 7), .ref (a 8), .ref (a 9), .ref (a 10), .ref (a 11), .ref (a 12), .ref (a 13), .ref (a 14), .ref (a 15), .ref (a 16), .ref (a 17), .ref (a 18), .ref (a 19), .int 0, .int 0, .int tk, .int 0, .int 0, .ref (a 25), .ref (a 26), .ref (a 27), .ref (a 28), .ref (a 29), .ref (a 30), .ref (a 31), .ref (a 32), .int 0, .ref (a 34), .ref (a 35), .ref (a 36), .ref (a 37), .int 0, .int (-1), .ref (a 40), .ref (a 41), .ref (a 42), .ref (a 43), .ref (a 44), .int 0]))]) [0] (by decide) rfl
    exact W.zret (v := 0) hx hb hr (by decide) (fun t ht hW => ⟨⟨0, (), rfl, rfl, by rw [ht]; exact hP9, hD9⟩, hS.F ht⟩) hS.2.2 dX9_isPair_35
  · refine lv_iload_n hx hb dX9_isPair_4 rfl (lv_at hl 1 rfl) ?_
    refine lv_iconst (v := 3) hx hb dX9_isPair_5 (by decide) ?_
    refine lv_icmp_gt (tgt := 34) hx hb dX9_isPair_6 (by decide) (fun c_2 => ?_) (fun c_2 => ?_)
    · refine lv_iconst (v := 0) hx hb dX9_isPair_34 (by decide) ?_
      have hP9 := hP.sub (ws' := [(h0, .inr (10, [.ref (a 0), .ref (a 1), .ref (a 2), .ref (a 3), .ref (a 4), .ref (a 5), .ref (a 6), .ref (a 7), .ref (a 8), .ref (a 9), .ref (a 10), .ref (a 11), .ref (a 12), .ref (a 13), .ref (a 14), .ref (a 15), .ref (a 16), .ref (a 17), .ref (a 18), .ref (a 19), .int 0, .int 0, .int tk, .int 0, .int 0, .ref (a 25), .ref (a 26), .ref (a 27), .ref (a 28), .ref (a 29), .ref (a 30), .ref (a 31), .ref (a 32), .int 0, .ref (a 34), .ref (a 35), .ref (a 36), .ref (a 37), .int 0, .int (-1), .ref (a 40), .ref (a 41), .ref (a 42), .ref (a 43), .ref (a 44), .int 0]))]) [0] rfl
      have hD9 := hD.sub (ws' := [(h0, .inr (10, [.ref (a 0), .ref (a 1), .ref (a 2), .ref (a 3), .ref (a 4), .ref (a 5), .ref (a 6), .ref (a 7), .ref (a 8), .ref (a 9), .ref (a 10), .ref (a 11), .ref (a 12), .ref (a 13), .ref (a 14), .ref (a 15), .ref (a 16), .ref (a 17), .ref (a 18), .ref (a 19), .int 0, .int 0, .int tk, .int 0, .int 0, .ref (a 25), .ref (a 26), .ref (a 27), .ref (a 28), .ref (a 29), .ref (a 30), .ref (a 31), .ref (a 32), .int 0, .ref (a 34), .ref (a 35), .ref (a 36), .ref (a 37), .int 0, .int (-1), .ref (a 40), .ref (a 41), .ref (a 42), .ref (a 43), .ref (a 44), .int 0]))]) [0] (by decide) rfl
      exact W.zret (v := 0) hx hb hr (by decide) (fun t ht hW => ⟨⟨0, (), rfl, rfl, by rw [ht]; exact hP9, hD9⟩, hS.F ht⟩) hS.2.2 dX9_isPair_35
    · refine lv_aload_n hx hb dX9_isPair_9 rfl (lv_at hl 0 rfl) ?_
      refine lv_iload_n hx hb dX9_isPair_10 rfl (lv_at hl 2 rfl) ?_
      have hPc := hP.sub (ws' := [(h0, .inr (10, [.ref (a 0), .ref (a 1), .ref (a 2), .ref (a 3), .ref (a 4), .ref (a 5), .ref (a 6), .ref (a 7), .ref (a 8), .ref (a 9), .ref (a 10), .ref (a 11), .ref (a 12), .ref (a 13), .ref (a 14), .ref (a 15), .ref (a 16), .ref (a 17), .ref (a 18), .ref (a 19), .int 0, .int 0, .int tk, .int 0, .int 0, .ref (a 25), .ref (a 26), .ref (a 27), .ref (a 28), .ref (a 29), .ref (a 30), .ref (a 31), .ref (a 32), .int 0, .ref (a 34), .ref (a 35), .ref (a 36), .ref (a 37), .int 0, .int (-1), .ref (a 40), .ref (a 41), .ref (a 42), .ref (a 43), .ref (a 44), .int 0]))]) [0] rfl
      have hDc := hD.sub (ws' := [(h0, .inr (10, [.ref (a 0), .ref (a 1), .ref (a 2), .ref (a 3), .ref (a 4), .ref (a 5), .ref (a 6), .ref (a 7), .ref (a 8), .ref (a 9), .ref (a 10), .ref (a 11), .ref (a 12), .ref (a 13), .ref (a 14), .ref (a 15), .ref (a 16), .ref (a 17), .ref (a 18), .ref (a 19), .int 0, .int 0, .int tk, .int 0, .int 0, .ref (a 25), .ref (a 26), .ref (a 27), .ref (a 28), .ref (a 29), .ref (a 30), .ref (a 31), .ref (a 32), .int 0, .ref (a 34), .ref (a 35), .ref (a 36), .ref (a 37), .int 0, .int (-1), .ref (a 40), .ref (a 41), .ref (a 42), .ref (a 43), .ref (a 44), .int 0]))]) [0] (by decide) rfl
      have hKc := hK.sub (tys' := []) [] rfl
      have hFc := va_free (wc := [(h0, .inr (10, [.ref (a 0), .ref (a 1), .ref (a 2), .ref (a 3), .ref (a 4), .ref (a 5), .ref (a 6), .ref (a 7), .ref (a 8), .ref (a 9), .ref (a 10), .ref (a 11), .ref (a 12), .ref (a 13), .ref (a 14), .ref (a 15), .ref (a 16), .ref (a 17), .ref (a 18), .ref (a 19), .int 0, .int 0, .int tk, .int 0, .int 0, .ref (a 25), .ref (a 26), .ref (a 27), .ref (a 28), .ref (a 29), .ref (a 30), .ref (a 31), .ref (a 32), .int 0, .ref (a 34), .ref (a 35), .ref (a 36), .ref (a 37), .int 0, .int (-1), .ref (a 40), .ref (a 41), .ref (a 42), .ref (a 43), .ref (a 44), .int 0]))]) hD hS hA [0] rfl
      refine va_calli (va_runV (As := [.int p1]) (rest := []) ⟨hx, hb, hml, hown, hts⟩ (c_is l dC dI h0 a tk p1 s.heap.size) (cwV 1 hts wc_isPair_is_135 rfl rfl rfl (by decide +kernel) ⟨Nat.le_of_ble_eq_true rfl, Nat.le_of_ble_eq_true rfl⟩) ⟨fun a U g mk q => by obtain ⟨q0, q1, qP, qK, qD, qN⟩ := q; exact ⟨q0, q1, qP, va_K.moved (u := U) (U := U.calling g mk a) (Vm.Alike.refl U.vm) qK, qD, pw_N.same (u := U) (U := U.calling g mk a) rfl qN⟩, va_recv hKc hPc (ci := 10) (q0 := 0) rfl rfl, fun U hU hW => ⟨rfl, by rw [hU], by rw [hU]; exact hPc, va_K.moved hW.alike hKc, hDc.weaken (fun _ _ _ _ => trivial), pw_N.warm hW hN⟩⟩ rfl rfl hl.1 rfl (lv_room (Nat.le_of_ble_eq_true rfl)) dX9_isPair_11 ⟨Nat.le_of_ble_eq_true rfl, Nat.le_of_ble_eq_true rfl⟩) hS (fun q _ h => hFc q h) hFc (fun r_3 u t H1 locs ht hvm hw hB hz1 hk1 hS => ?_)
      obtain ⟨hP1, hD1⟩ := hB
      rw [ht] at hP1
      obtain ⟨hP, hD⟩ := va_join (wr := []) (w1 := [(h0, .inr (10, [.ref (a 0), .ref (a 1), .ref (a 2), .ref (a 3), .ref (a 4), .ref (a 5), .ref (a 6), .ref (a 7), .ref (a 8), .ref (a 9), .ref (a 10), .ref (a 11), .ref (a 12), .ref (a 13), .ref (a 14), .ref (a 15), .ref (a 16), .ref (a 17), .ref (a 18), .ref (a 19), .int 0, .int 0, .int tk, .int 0, .int 0, .ref (a 25), .ref (a 26), .ref (a 27), .ref (a 28), .ref (a 29), .ref (a 30), .ref (a 31), .ref (a 32), .int 0, .ref (a 34), .ref (a 35), .ref (a 36), .ref (a 37), .int 0, .int (-1), .ref (a 40), .ref (a 41), .ref (a 42), .ref (a 43), .ref (a 44), .int 0]))]) hP hD [0] [] rfl rfl (by decide) (by decide) hk1 hFc hP1 hD1
      generalize H1 = H at hP hS ⊢
      replace hP : va_P (dC, dI) vwCl [(h0, .inr (10, [.ref (a 0), .ref (a 1), .ref (a 2), .ref (a 3), .ref (a 4), .ref (a 5), .ref (a 6), .ref (a 7), .ref (a 8), .ref (a 9), .ref (a 10), .ref (a 11), .ref (a 12), .ref (a 13), .ref (a 14), .ref (a 15), .ref (a 16), .ref (a 17), .ref (a 18), .ref (a 19), .int 0, .int 0, .int tk, .int 0, .int 0, .ref (a 25), .ref (a 26), .ref (a 27), .ref (a 28), .ref (a 29), .ref (a 30), .ref (a 31), .ref (a 32), .int 0, .ref (a 34), .ref (a 35), .ref (a 36), .ref (a 37), .int 0, .int (-1), .ref (a 40), .ref (a 41), .ref (a 42), .ref (a 43), .ref (a 44), .int 0]))] H := hP
      replace hD : va_D A [(h0, .inr (10, [.ref (a 0), .ref (a 1), .ref (a 2), .ref (a 3), .ref (a 4), .ref (a 5), .ref (a 6), .ref (a 7), .ref (a 8), .ref (a 9), .ref (a 10), .ref (a 11), .ref (a 12), .ref (a 13), .ref (a 14), .ref (a 15), .ref (a 16), .ref (a 17), .ref (a 18), .ref (a 19), .int 0, .int 0, .int tk, .int 0, .int 0, .ref (a 25), .ref (a 26), .ref (a 27), .ref (a 28), .ref (a 29), .ref (a 30), .ref (a 31), .ref (a 32), .int 0, .ref (a 34), .ref (a 35), .ref (a 36), .ref (a 37), .int 0, .int (-1), .ref (a 40), .ref (a 41), .ref (a 42), .ref (a 43), .ref (a 44), .int 0]))] := hD
      try dsimp only at hw
      subst hw
      refine lv_if_eq (tgt := 34) hx hb dX9_isPair_14 (by decide) (fun _ => ?_) (fun c9 => absurd (by decide) c9)
      refine lv_iconst (v := 0) hx hb dX9_isPair_34 (by decide) ?_
      have hP9 := hP.sub (ws' := [(h0, .inr (10, [.ref (a 0), .ref (a 1), .ref (a 2), .ref (a 3), .ref (a 4), .ref (a 5), .ref (a 6), .ref (a 7), .ref (a 8), .ref (a 9), .ref (a 10), .ref (a 11), .ref (a 12), .ref (a 13), .ref (a 14), .ref (a 15), .ref (a 16), .ref (a 17), .ref (a 18), .ref (a 19), .int 0, .int 0, .int tk, .int 0, .int 0, .ref (a 25), .ref (a 26), .ref (a 27), .ref (a 28), .ref (a 29), .ref (a 30), .ref (a 31), .ref (a 32), .int 0, .ref (a 34), .ref (a 35), .ref (a 36), .ref (a 37), .int 0, .int (-1), .ref (a 40), .ref (a 41), .ref (a 42), .ref (a 43), .ref (a 44), .int 0]))]) [0] rfl
      have hD9 := hD.sub (ws' := [(h0, .inr (10, [.ref (a 0), .ref (a 1), .ref (a 2), .ref (a 3), .ref (a 4), .ref (a 5), .ref (a 6), .ref (a 7), .ref (a 8), .ref (a 9), .ref (a 10), .ref (a 11), .ref (a 12), .ref (a 13), .ref (a 14), .ref (a 15), .ref (a 16), .ref (a 17), .ref (a 18), .ref (a 19), .int 0, .int 0, .int tk, .int 0, .int 0, .ref (a 25), .ref (a 26), .ref (a 27), .ref (a 28), .ref (a 29), .ref (a 30), .ref (a 31), .ref (a 32), .int 0, .ref (a 34), .ref (a 35), .ref (a 36), .ref (a 37), .int 0, .int (-1), .ref (a 40), .ref (a 41), .ref (a 42), .ref (a 43), .ref (a 44), .int 0]))]) [0] (by decide) rfl
      exact W.zret (v := 0) hx hb hr (by decide) (fun t ht hW => ⟨⟨0, (), rfl, rfl, by rw [ht]; exact hP9, hD9⟩, hS.F ht⟩) hS.2.2 dX9_isPair_35
def wq_jobs : List Cond := [.code yX9_jobs cX9_jobs 3 (some .int), .fieldLink RX9 126 "ServiceTreeModel" "services" "I"] ++ (wsX90)
theorem in_jobs_X9 : ∀ w ∈ wsX90, w ∈ wq_jobs := fun _ h => List.mem_append_right _ (h)
set_option maxRecDepth 20000 in
theorem wi_jobs : ∀ w ∈ wq_jobs, w ∈ lw_tbl := List.forall_mem_append.mpr ⟨(by decide +kernel), inKX9⟩
set_option maxRecDepth 20000 in
theorem wg_jobs : GoodIn wq_jobs wq_jobs := goodIn_sub (fun _ h => h) (by decide +kernel)
set_option maxHeartbeats 4000000 in
set_option maxRecDepth 100000 in
theorem c_jobs (l : Launch) (dC : Nat → ClassId) (dI : Nat → Nat → Nat) (h0 : Nat) (a : Nat → Nat) (tk : Int32) (sz : Nat) : Met l yX9_jobs wq_jobs ({ frames := 0, cells := 0, slots := 0, locals := 0 }) (va_Pc [.ref h0] (fun U => U.heap.size = sz ∧ va_P (dC, dI) vwCl [(h0, .inr (10, [.ref (a 0), .ref (a 1), .ref (a 2), .ref (a 3), .ref (a 4), .ref (a 5), .ref (a 6), .ref (a 7), .ref (a 8), .ref (a 9), .ref (a 10), .ref (a 11), .ref (a 12), .ref (a 13), .ref (a 14), .ref (a 15), .ref (a 16), .ref (a 17), .ref (a 18), .ref (a 19), .int 0, .int 0, .int tk, .int 0, .int 0, .ref (a 25), .ref (a 26), .ref (a 27), .ref (a 28), .ref (a 29), .ref (a 30), .ref (a 31), .ref (a 32), .int 0, .ref (a 34), .ref (a 35), .ref (a 36), .ref (a 37), .int 0, .int (-1), .ref (a 40), .ref (a 41), .ref (a 42), .ref (a 43), .ref (a 44), .int 0]))] U.heap ∧ va_K (dC, dI) vwCl [] U ∧ va_D (fun _ => True) [(h0, .inr (10, [.ref (a 0), .ref (a 1), .ref (a 2), .ref (a 3), .ref (a 4), .ref (a 5), .ref (a 6), .ref (a 7), .ref (a 8), .ref (a 9), .ref (a 10), .ref (a 11), .ref (a 12), .ref (a 13), .ref (a 14), .ref (a 15), .ref (a 16), .ref (a 17), .ref (a 18), .ref (a 19), .int 0, .int 0, .int tk, .int 0, .int 0, .ref (a 25), .ref (a 26), .ref (a 27), .ref (a 28), .ref (a 29), .ref (a 30), .ref (a 31), .ref (a 32), .int 0, .ref (a 34), .ref (a 35), .ref (a 36), .ref (a 37), .int 0, .int (-1), .ref (a 40), .ref (a 41), .ref (a 42), .ref (a 43), .ref (a 44), .int 0]))] ∧ pw_N U)) (va_Qi (fun (r : Int32) (_ : Unit) => r = 0) (fun (_ : Unit) (t : State) => va_P (dC, dI) vwCl [(h0, .inr (10, [.ref (a 0), .ref (a 1), .ref (a 2), .ref (a 3), .ref (a 4), .ref (a 5), .ref (a 6), .ref (a 7), .ref (a 8), .ref (a 9), .ref (a 10), .ref (a 11), .ref (a 12), .ref (a 13), .ref (a 14), .ref (a 15), .ref (a 16), .ref (a 17), .ref (a 18), .ref (a 19), .int 0, .int 0, .int tk, .int 0, .int 0, .ref (a 25), .ref (a 26), .ref (a 27), .ref (a 28), .ref (a 29), .ref (a 30), .ref (a 31), .ref (a 32), .int 0, .ref (a 34), .ref (a 35), .ref (a 36), .ref (a 37), .int 0, .int (-1), .ref (a 40), .ref (a 41), .ref (a 42), .ref (a 43), .ref (a 44), .int 0]))] t.heap ∧ va_D (va_A [(h0, .inr (10, [.ref (a 0), .ref (a 1), .ref (a 2), .ref (a 3), .ref (a 4), .ref (a 5), .ref (a 6), .ref (a 7), .ref (a 8), .ref (a 9), .ref (a 10), .ref (a 11), .ref (a 12), .ref (a 13), .ref (a 14), .ref (a 15), .ref (a 16), .ref (a 17), .ref (a 18), .ref (a 19), .int 0, .int 0, .int tk, .int 0, .int 0, .ref (a 25), .ref (a 26), .ref (a 27), .ref (a 28), .ref (a 29), .ref (a 30), .ref (a 31), .ref (a 32), .int 0, .ref (a 34), .ref (a 35), .ref (a 36), .ref (a 37), .int 0, .int (-1), .ref (a 40), .ref (a 41), .ref (a 42), .ref (a 43), .ref (a 44), .int 0]))] sz) [(h0, .inr (10, [.ref (a 0), .ref (a 1), .ref (a 2), .ref (a 3), .ref (a 4), .ref (a 5), .ref (a 6), .ref (a 7), .ref (a 8), .ref (a 9), .ref (a 10), .ref (a 11), .ref (a 12), .ref (a 13), .ref (a 14), .ref (a 15), .ref (a 16), .ref (a 17), .ref (a 18), .ref (a 19), .int 0, .int 0, .int tk, .int 0, .int 0, .ref (a 25), .ref (a 26), .ref (a 27), .ref (a 28), .ref (a 29), .ref (a 30), .ref (a 31), .ref (a 32), .int 0, .ref (a 34), .ref (a 35), .ref (a 36), .ref (a 37), .int 0, .int (-1), .ref (a 40), .ref (a 41), .ref (a 42), .ref (a 43), .ref (a 44), .int 0]))]) (va_A [(h0, .inr (10, [.ref (a 0), .ref (a 1), .ref (a 2), .ref (a 3), .ref (a 4), .ref (a 5), .ref (a 6), .ref (a 7), .ref (a 8), .ref (a 9), .ref (a 10), .ref (a 11), .ref (a 12), .ref (a 13), .ref (a 14), .ref (a 15), .ref (a 16), .ref (a 17), .ref (a 18), .ref (a 19), .int 0, .int 0, .int tk, .int 0, .int 0, .ref (a 25), .ref (a 26), .ref (a 27), .ref (a 28), .ref (a 29), .ref (a 30), .ref (a 31), .ref (a 32), .int 0, .ref (a 34), .ref (a 35), .ref (a 36), .ref (a 37), .int 0, .int (-1), .ref (a 40), .ref (a 41), .ref (a 42), .ref (a 43), .ref (a 44), .int 0]))] sz)) 0 0 (va_A [(h0, .inr (10, [.ref (a 0), .ref (a 1), .ref (a 2), .ref (a 3), .ref (a 4), .ref (a 5), .ref (a 6), .ref (a 7), .ref (a 8), .ref (a 9), .ref (a 10), .ref (a 11), .ref (a 12), .ref (a 13), .ref (a 14), .ref (a 15), .ref (a 16), .ref (a 17), .ref (a 18), .ref (a 19), .int 0, .int 0, .int tk, .int 0, .int 0, .ref (a 25), .ref (a 26), .ref (a 27), .ref (a 28), .ref (a 29), .ref (a 30), .ref (a 31), .ref (a 32), .int 0, .ref (a 34), .ref (a 35), .ref (a 36), .ref (a 37), .int 0, .int (-1), .ref (a 40), .ref (a 41), .ref (a 42), .ref (a 43), .ref (a 44), .int 0]))] sz) := by
  refine Met.ofW (cc := cX9_jobs) (maxL := 3) (ret := (some .int)) (by decide) rfl ?_
  intro p e s m args below meth c s₁ B hml hv
  obtain ⟨rfl, hsz, hP, hK, hD0, hN⟩ := hv
  have hx := B.exec
  have hb := B.bytes
  have hr := B.returns
  have hts := atoms_spec (ws := wq_jobs) B.pre
  have hown : s.vm.findClass RX9 = some m.cls := findClass_of_methodNamed B.named
  have hlocks := B.notSynchronized
  subst hsz
  have hD := hD0.self (sz := s.heap.size)
  generalize hAe : va_A [(h0, .inr (10, [.ref (a 0), .ref (a 1), .ref (a 2), .ref (a 3), .ref (a 4), .ref (a 5), .ref (a 6), .ref (a 7), .ref (a 8), .ref (a 9), .ref (a 10), .ref (a 11), .ref (a 12), .ref (a 13), .ref (a 14), .ref (a 15), .ref (a 16), .ref (a 17), .ref (a 18), .ref (a 19), .int 0, .int 0, .int tk, .int 0, .int 0, .ref (a 25), .ref (a 26), .ref (a 27), .ref (a 28), .ref (a 29), .ref (a 30), .ref (a 31), .ref (a 32), .int 0, .ref (a 34), .ref (a 35), .ref (a 36), .ref (a 37), .int 0, .int (-1), .ref (a 40), .ref (a 41), .ref (a 42), .ref (a 43), .ref (a 44), .int 0]))] s.heap.size = A at hD ⊢
  have hA : ∀ q : Nat, s.heap.size ≤ q → A q := fun q h => by rw [← hAe]; exact Or.inr h
  have hS : va_S A s.heap s.heap [] := va_S.rf
  have hP : va_P (dC, dI) vwCl [(h0, .inr (10, [.ref (a 0), .ref (a 1), .ref (a 2), .ref (a 3), .ref (a 4), .ref (a 5), .ref (a 6), .ref (a 7), .ref (a 8), .ref (a 9), .ref (a 10), .ref (a 11), .ref (a 12), .ref (a 13), .ref (a 14), .ref (a 15), .ref (a 16), .ref (a 17), .ref (a 18), .ref (a 19), .int 0, .int 0, .int tk, .int 0, .int 0, .ref (a 25), .ref (a 26), .ref (a 27), .ref (a 28), .ref (a 29), .ref (a 30), .ref (a 31), .ref (a 32), .int 0, .ref (a 34), .ref (a 35), .ref (a 36), .ref (a 37), .int 0, .int (-1), .ref (a 40), .ref (a 41), .ref (a 42), .ref (a 43), .ref (a 44), .int 0]))] s.heap := hP
  have hl := lv_entry ([.ref h0]) (n := 3) (Nat.le_of_ble_eq_true rfl)
  rw [lg_entry_eq]
  generalize (lg_sl ([.ref h0]) ++ List.replicate (3 - (lg_sl ([.ref h0])).length) Slot.unset).toArray = ls at hl ⊢
  have hl : lv_has ls 3 [(0, .ref h0)] := hl
  refine lv_iconst (v := 0) hx hb dX9_jobs_0 (by decide) ?_
  refine lv_istore_n (lv' := [(1, .int 0), (0, .ref h0)]) hx hb dX9_jobs_1 rfl hl (by decide) rfl (fun ls hl => ?_)
  refine lv_iconst (v := 0) hx hb dX9_jobs_2 (by decide) ?_
  refine lv_istore_n (lv' := [(2, .int 0), (1, .int 0), (0, .ref h0)]) hx hb dX9_jobs_3 rfl hl (by decide) rfl (fun ls hl => ?_)
  refine lv_iload_n hx hb dX9_jobs_4 rfl (lv_at hl 0 rfl) ?_
  refine lv_aload_n hx hb dX9_jobs_5 rfl (lv_at hl 2 rfl) ?_
  refine va_get (D := (dC, dI)) (ci := 10) (v := .int 0) (C := RX9) (T := TX9) (N := 46) hx hb hts in_jobs_X9 hown hK hP 0 rfl rfl 21 (by decide) (hts (.fieldLink RX9 126 "ServiceTreeModel" "services" "I") (by decide +kernel)) (fun _ h9 => h9) rfl dX9_jobs_6 ?_
  refine lv_icmp_ge (tgt := 35) hx hb dX9_jobs_9 (by decide) (fun _ => ?_) (fun c9 => absurd (by decide) c9)
  refine lv_iload_n hx hb dX9_jobs_35 rfl (lv_at hl 1 rfl) ?_
  have hP9 := hP.sub (ws' := [(h0, .inr (10, [.ref (a 0), .ref (a 1), .ref (a 2), .ref (a 3), .ref (a 4), .ref (a 5), .ref (a 6), .ref (a 7), .ref (a 8), .ref (a 9), .ref (a 10), .ref (a 11), .ref (a 12), .ref (a 13), .ref (a 14), .ref (a 15), .ref (a 16), .ref (a 17), .ref (a 18), .ref (a 19), .int 0, .int 0, .int tk, .int 0, .int 0, .ref (a 25), .ref (a 26), .ref (a 27), .ref (a 28), .ref (a 29), .ref (a 30), .ref (a 31), .ref (a 32), .int 0, .ref (a 34), .ref (a 35), .ref (a 36), .ref (a 37), .int 0, .int (-1), .ref (a 40), .ref (a 41), .ref (a 42), .ref (a 43), .ref (a 44), .int 0]))]) [0] rfl
  have hD9 := hD.sub (ws' := [(h0, .inr (10, [.ref (a 0), .ref (a 1), .ref (a 2), .ref (a 3), .ref (a 4), .ref (a 5), .ref (a 6), .ref (a 7), .ref (a 8), .ref (a 9), .ref (a 10), .ref (a 11), .ref (a 12), .ref (a 13), .ref (a 14), .ref (a 15), .ref (a 16), .ref (a 17), .ref (a 18), .ref (a 19), .int 0, .int 0, .int tk, .int 0, .int 0, .ref (a 25), .ref (a 26), .ref (a 27), .ref (a 28), .ref (a 29), .ref (a 30), .ref (a 31), .ref (a 32), .int 0, .ref (a 34), .ref (a 35), .ref (a 36), .ref (a 37), .int 0, .int (-1), .ref (a 40), .ref (a 41), .ref (a 42), .ref (a 43), .ref (a 44), .int 0]))]) [0] (by decide) rfl
  exact W.iret (v := 0) hx hb hr (fun t ht hW => ⟨⟨0, (), rfl, rfl, by rw [ht]; exact hP9, hD9⟩, hS.F ht⟩) hS.2.2 dX9_jobs_36
def wq_m_life : List Cond := [.code yX9_life cX9_life 5 (some .int), .methodLink RX9 135 yX9_is, .instanceMethod yX9_is, .selects RX9 yX9_is yX9_is, .initialized RX9] ++ (wq_is)
set_option maxRecDepth 20000 in
theorem wi_m_life : ∀ w ∈ wq_m_life, w ∈ lw_tbl := List.forall_mem_append.mpr ⟨(by decide +kernel), wi_is⟩
set_option maxRecDepth 20000 in
theorem wg_m_life : GoodIn wq_m_life wq_m_life := goodIn_sub (fun _ h => h) (by decide +kernel)
set_option maxRecDepth 20000 in
theorem wc_m_life_is_135 : GoodIn wq_m_life (wsV RX9 135 RX9 yX9_is wq_is) := goodIn_app (goodIn_of _ (by decide +kernel)) (fun w h => ⟨List.mem_append_right _ (h), (wg_is w h).2⟩)
set_option maxHeartbeats 4000000 in
set_option maxRecDepth 100000 in
theorem c_m_life (l : Launch) (dC : Nat → ClassId) (dI : Nat → Nat → Nat) (h0 : Nat) (a : Nat → Nat) (tk : Int32) (p0 : Int32) (p1 : Int32) (p2 : Int32) (sz : Nat) : Met l yX9_life wq_m_life ({ frames := 1, cells := 0, slots := 0, locals := 21 }) (va_Pc [.ref h0, .int p0, .int p1, .int p2] (fun U => U.heap.size = sz ∧ va_P (dC, dI) vwCl [(h0, .inr (10, [.ref (a 0), .ref (a 1), .ref (a 2), .ref (a 3), .ref (a 4), .ref (a 5), .ref (a 6), .ref (a 7), .ref (a 8), .ref (a 9), .ref (a 10), .ref (a 11), .ref (a 12), .ref (a 13), .ref (a 14), .ref (a 15), .ref (a 16), .ref (a 17), .ref (a 18), .ref (a 19), .int 0, .int 0, .int tk, .int 0, .int 0, .ref (a 25), .ref (a 26), .ref (a 27), .ref (a 28), .ref (a 29), .ref (a 30), .ref (a 31), .ref (a 32), .int 0, .ref (a 34), .ref (a 35), .ref (a 36), .ref (a 37), .int 0, .int (-1), .ref (a 40), .ref (a 41), .ref (a 42), .ref (a 43), .ref (a 44), .int 0]))] U.heap ∧ va_K (dC, dI) vwCl [] U ∧ va_D (fun _ => True) [(h0, .inr (10, [.ref (a 0), .ref (a 1), .ref (a 2), .ref (a 3), .ref (a 4), .ref (a 5), .ref (a 6), .ref (a 7), .ref (a 8), .ref (a 9), .ref (a 10), .ref (a 11), .ref (a 12), .ref (a 13), .ref (a 14), .ref (a 15), .ref (a 16), .ref (a 17), .ref (a 18), .ref (a 19), .int 0, .int 0, .int tk, .int 0, .int 0, .ref (a 25), .ref (a 26), .ref (a 27), .ref (a 28), .ref (a 29), .ref (a 30), .ref (a 31), .ref (a 32), .int 0, .ref (a 34), .ref (a 35), .ref (a 36), .ref (a 37), .int 0, .int (-1), .ref (a 40), .ref (a 41), .ref (a 42), .ref (a 43), .ref (a 44), .int 0]))] ∧ pw_N U)) (va_Qi (fun (r : Int32) (_ : Unit) => r = (-1)) (fun (_ : Unit) (t : State) => True) (va_A [(h0, .inr (10, [.ref (a 0), .ref (a 1), .ref (a 2), .ref (a 3), .ref (a 4), .ref (a 5), .ref (a 6), .ref (a 7), .ref (a 8), .ref (a 9), .ref (a 10), .ref (a 11), .ref (a 12), .ref (a 13), .ref (a 14), .ref (a 15), .ref (a 16), .ref (a 17), .ref (a 18), .ref (a 19), .int 0, .int 0, .int tk, .int 0, .int 0, .ref (a 25), .ref (a 26), .ref (a 27), .ref (a 28), .ref (a 29), .ref (a 30), .ref (a 31), .ref (a 32), .int 0, .ref (a 34), .ref (a 35), .ref (a 36), .ref (a 37), .int 0, .int (-1), .ref (a 40), .ref (a 41), .ref (a 42), .ref (a 43), .ref (a 44), .int 0]))] sz)) 0 0 (va_A [(h0, .inr (10, [.ref (a 0), .ref (a 1), .ref (a 2), .ref (a 3), .ref (a 4), .ref (a 5), .ref (a 6), .ref (a 7), .ref (a 8), .ref (a 9), .ref (a 10), .ref (a 11), .ref (a 12), .ref (a 13), .ref (a 14), .ref (a 15), .ref (a 16), .ref (a 17), .ref (a 18), .ref (a 19), .int 0, .int 0, .int tk, .int 0, .int 0, .ref (a 25), .ref (a 26), .ref (a 27), .ref (a 28), .ref (a 29), .ref (a 30), .ref (a 31), .ref (a 32), .int 0, .ref (a 34), .ref (a 35), .ref (a 36), .ref (a 37), .int 0, .int (-1), .ref (a 40), .ref (a 41), .ref (a 42), .ref (a 43), .ref (a 44), .int 0]))] sz) := by
  refine Met.ofW (cc := cX9_life) (maxL := 5) (ret := (some .int)) (by decide) rfl ?_
  intro p e s m args below meth c s₁ B hml hv
  obtain ⟨rfl, hsz, hP, hK, hD0, hN⟩ := hv
  have hx := B.exec
  have hb := B.bytes
  have hr := B.returns
  have hts := atoms_spec (ws := wq_m_life) B.pre
  have hown : s.vm.findClass RX9 = some m.cls := findClass_of_methodNamed B.named
  have hlocks := B.notSynchronized
  subst hsz
  have hD := hD0.self (sz := s.heap.size)
  generalize hAe : va_A [(h0, .inr (10, [.ref (a 0), .ref (a 1), .ref (a 2), .ref (a 3), .ref (a 4), .ref (a 5), .ref (a 6), .ref (a 7), .ref (a 8), .ref (a 9), .ref (a 10), .ref (a 11), .ref (a 12), .ref (a 13), .ref (a 14), .ref (a 15), .ref (a 16), .ref (a 17), .ref (a 18), .ref (a 19), .int 0, .int 0, .int tk, .int 0, .int 0, .ref (a 25), .ref (a 26), .ref (a 27), .ref (a 28), .ref (a 29), .ref (a 30), .ref (a 31), .ref (a 32), .int 0, .ref (a 34), .ref (a 35), .ref (a 36), .ref (a 37), .int 0, .int (-1), .ref (a 40), .ref (a 41), .ref (a 42), .ref (a 43), .ref (a 44), .int 0]))] s.heap.size = A at hD ⊢
  have hA : ∀ q : Nat, s.heap.size ≤ q → A q := fun q h => by rw [← hAe]; exact Or.inr h
  have hS : va_S A s.heap s.heap [] := va_S.rf
  have hP : va_P (dC, dI) vwCl [(h0, .inr (10, [.ref (a 0), .ref (a 1), .ref (a 2), .ref (a 3), .ref (a 4), .ref (a 5), .ref (a 6), .ref (a 7), .ref (a 8), .ref (a 9), .ref (a 10), .ref (a 11), .ref (a 12), .ref (a 13), .ref (a 14), .ref (a 15), .ref (a 16), .ref (a 17), .ref (a 18), .ref (a 19), .int 0, .int 0, .int tk, .int 0, .int 0, .ref (a 25), .ref (a 26), .ref (a 27), .ref (a 28), .ref (a 29), .ref (a 30), .ref (a 31), .ref (a 32), .int 0, .ref (a 34), .ref (a 35), .ref (a 36), .ref (a 37), .int 0, .int (-1), .ref (a 40), .ref (a 41), .ref (a 42), .ref (a 43), .ref (a 44), .int 0]))] s.heap := hP
  have hl := lv_entry ([.ref h0, .int p0, .int p1, .int p2]) (n := 5) (Nat.le_of_ble_eq_true rfl)
  rw [lg_entry_eq]
  generalize (lg_sl ([.ref h0, .int p0, .int p1, .int p2]) ++ List.replicate (5 - (lg_sl ([.ref h0, .int p0, .int p1, .int p2])).length) Slot.unset).toArray = ls at hl ⊢
  have hl : lv_has ls 5 [(0, .ref h0), (1, .int p0), (2, .int p1), (3, .int p2)] := hl
  refine lv_aload_n hx hb dX9_life_0 rfl (lv_at hl 0 rfl) ?_
  refine lv_iload_n hx hb dX9_life_1 rfl (lv_at hl 1 rfl) ?_
  have hPc := hP.sub (ws' := [(h0, .inr (10, [.ref (a 0), .ref (a 1), .ref (a 2), .ref (a 3), .ref (a 4), .ref (a 5), .ref (a 6), .ref (a 7), .ref (a 8), .ref (a 9), .ref (a 10), .ref (a 11), .ref (a 12), .ref (a 13), .ref (a 14), .ref (a 15), .ref (a 16), .ref (a 17), .ref (a 18), .ref (a 19), .int 0, .int 0, .int tk, .int 0, .int 0, .ref (a 25), .ref (a 26), .ref (a 27), .ref (a 28), .ref (a 29), .ref (a 30), .ref (a 31), .ref (a 32), .int 0, .ref (a 34), .ref (a 35), .ref (a 36), .ref (a 37), .int 0, .int (-1), .ref (a 40), .ref (a 41), .ref (a 42), .ref (a 43), .ref (a 44), .int 0]))]) [0] rfl
  have hDc := hD.sub (ws' := [(h0, .inr (10, [.ref (a 0), .ref (a 1), .ref (a 2), .ref (a 3), .ref (a 4), .ref (a 5), .ref (a 6), .ref (a 7), .ref (a 8), .ref (a 9), .ref (a 10), .ref (a 11), .ref (a 12), .ref (a 13), .ref (a 14), .ref (a 15), .ref (a 16), .ref (a 17), .ref (a 18), .ref (a 19), .int 0, .int 0, .int tk, .int 0, .int 0, .ref (a 25), .ref (a 26), .ref (a 27), .ref (a 28), .ref (a 29), .ref (a 30), .ref (a 31), .ref (a 32), .int 0, .ref (a 34), .ref (a 35), .ref (a 36), .ref (a 37), .int 0, .int (-1), .ref (a 40), .ref (a 41), .ref (a 42), .ref (a 43), .ref (a 44), .int 0]))]) [0] (by decide) rfl
  have hKc := hK.sub (tys' := []) [] rfl
  have hFc := va_free (wc := [(h0, .inr (10, [.ref (a 0), .ref (a 1), .ref (a 2), .ref (a 3), .ref (a 4), .ref (a 5), .ref (a 6), .ref (a 7), .ref (a 8), .ref (a 9), .ref (a 10), .ref (a 11), .ref (a 12), .ref (a 13), .ref (a 14), .ref (a 15), .ref (a 16), .ref (a 17), .ref (a 18), .ref (a 19), .int 0, .int 0, .int tk, .int 0, .int 0, .ref (a 25), .ref (a 26), .ref (a 27), .ref (a 28), .ref (a 29), .ref (a 30), .ref (a 31), .ref (a 32), .int 0, .ref (a 34), .ref (a 35), .ref (a 36), .ref (a 37), .int 0, .int (-1), .ref (a 40), .ref (a 41), .ref (a 42), .ref (a 43), .ref (a 44), .int 0]))]) hD hS hA [0] rfl
  refine va_calli (va_runV (As := [.int p0]) (rest := []) ⟨hx, hb, hml, hown, hts⟩ (c_is l dC dI h0 a tk p0 s.heap.size) (cwV 1 hts wc_m_life_is_135 rfl rfl rfl (by decide +kernel) ⟨Nat.le_of_ble_eq_true rfl, Nat.le_of_ble_eq_true rfl⟩) ⟨fun a U g mk q => by obtain ⟨q0, q1, qP, qK, qD, qN⟩ := q; exact ⟨q0, q1, qP, va_K.moved (u := U) (U := U.calling g mk a) (Vm.Alike.refl U.vm) qK, qD, pw_N.same (u := U) (U := U.calling g mk a) rfl qN⟩, va_recv hKc hPc (ci := 10) (q0 := 0) rfl rfl, fun U hU hW => ⟨rfl, by rw [hU], by rw [hU]; exact hPc, va_K.moved hW.alike hKc, hDc.weaken (fun _ _ _ _ => trivial), pw_N.warm hW hN⟩⟩ rfl rfl hl.1 rfl (lv_room (Nat.le_of_ble_eq_true rfl)) dX9_life_2 ⟨Nat.le_of_ble_eq_true rfl, Nat.le_of_ble_eq_true rfl⟩) hS (fun q _ h => hFc q h) hFc (fun r_1 u t H1 locs ht hvm hw hB hz1 hk1 hS => ?_)
  obtain ⟨hP1, hD1⟩ := hB
  rw [ht] at hP1
  obtain ⟨hP, hD⟩ := va_join (wr := []) (w1 := [(h0, .inr (10, [.ref (a 0), .ref (a 1), .ref (a 2), .ref (a 3), .ref (a 4), .ref (a 5), .ref (a 6), .ref (a 7), .ref (a 8), .ref (a 9), .ref (a 10), .ref (a 11), .ref (a 12), .ref (a 13), .ref (a 14), .ref (a 15), .ref (a 16), .ref (a 17), .ref (a 18), .ref (a 19), .int 0, .int 0, .int tk, .int 0, .int 0, .ref (a 25), .ref (a 26), .ref (a 27), .ref (a 28), .ref (a 29), .ref (a 30), .ref (a 31), .ref (a 32), .int 0, .ref (a 34), .ref (a 35), .ref (a 36), .ref (a 37), .int 0, .int (-1), .ref (a 40), .ref (a 41), .ref (a 42), .ref (a 43), .ref (a 44), .int 0]))]) hP hD [0] [] rfl rfl (by decide) (by decide) hk1 hFc hP1 hD1
  generalize H1 = H at hP hS ⊢
  replace hP : va_P (dC, dI) vwCl [(h0, .inr (10, [.ref (a 0), .ref (a 1), .ref (a 2), .ref (a 3), .ref (a 4), .ref (a 5), .ref (a 6), .ref (a 7), .ref (a 8), .ref (a 9), .ref (a 10), .ref (a 11), .ref (a 12), .ref (a 13), .ref (a 14), .ref (a 15), .ref (a 16), .ref (a 17), .ref (a 18), .ref (a 19), .int 0, .int 0, .int tk, .int 0, .int 0, .ref (a 25), .ref (a 26), .ref (a 27), .ref (a 28), .ref (a 29), .ref (a 30), .ref (a 31), .ref (a 32), .int 0, .ref (a 34), .ref (a 35), .ref (a 36), .ref (a 37), .int 0, .int (-1), .ref (a 40), .ref (a 41), .ref (a 42), .ref (a 43), .ref (a 44), .int 0]))] H := hP
  replace hD : va_D A [(h0, .inr (10, [.ref (a 0), .ref (a 1), .ref (a 2), .ref (a 3), .ref (a 4), .ref (a 5), .ref (a 6), .ref (a 7), .ref (a 8), .ref (a 9), .ref (a 10), .ref (a 11), .ref (a 12), .ref (a 13), .ref (a 14), .ref (a 15), .ref (a 16), .ref (a 17), .ref (a 18), .ref (a 19), .int 0, .int 0, .int tk, .int 0, .int 0, .ref (a 25), .ref (a 26), .ref (a 27), .ref (a 28), .ref (a 29), .ref (a 30), .ref (a 31), .ref (a 32), .int 0, .ref (a 34), .ref (a 35), .ref (a 36), .ref (a 37), .int 0, .int (-1), .ref (a 40), .ref (a 41), .ref (a 42), .ref (a 43), .ref (a 44), .int 0]))] := hD
  try dsimp only at hw
  subst hw
  refine lv_if_eq (tgt := 29) hx hb dX9_life_5 (by decide) (fun _ => ?_) (fun c9 => absurd (by decide) c9)
  refine lv_iconst (v := (-1)) hx hb dX9_life_29 (by decide) ?_
  exact W.iret (v := (-1)) hx hb hr (fun t ht hW => ⟨⟨(-1), (), rfl, rfl, trivial⟩, hS.F ht⟩) hS.2.2 dX9_life_30
def wq_m_again : List Cond := [.code yX9_again cX9_again 5 (some .int), .methodLink RX9 135 yX9_is, .instanceMethod yX9_is, .selects RX9 yX9_is yX9_is, .initialized RX9] ++ (wq_is)
set_option maxRecDepth 20000 in
theorem wi_m_again : ∀ w ∈ wq_m_again, w ∈ lw_tbl := List.forall_mem_append.mpr ⟨(by decide +kernel), wi_is⟩
set_option maxRecDepth 20000 in
theorem wg_m_again : GoodIn wq_m_again wq_m_again := goodIn_sub (fun _ h => h) (by decide +kernel)
set_option maxRecDepth 20000 in
theorem wc_m_again_is_135 : GoodIn wq_m_again (wsV RX9 135 RX9 yX9_is wq_is) := goodIn_app (goodIn_of _ (by decide +kernel)) (fun w h => ⟨List.mem_append_right _ (h), (wg_is w h).2⟩)
set_option maxHeartbeats 4000000 in
set_option maxRecDepth 100000 in
theorem c_m_again (l : Launch) (dC : Nat → ClassId) (dI : Nat → Nat → Nat) (h0 : Nat) (a : Nat → Nat) (tk : Int32) (p0 : Int32) (p1 : Int32) (p2 : Int32) (p3 : Int32) (sz : Nat) : Met l yX9_again wq_m_again ({ frames := 1, cells := 0, slots := 0, locals := 21 }) (va_Pc [.ref h0, .int p0, .int p1, .int p2, .int p3] (fun U => U.heap.size = sz ∧ va_P (dC, dI) vwCl [(h0, .inr (10, [.ref (a 0), .ref (a 1), .ref (a 2), .ref (a 3), .ref (a 4), .ref (a 5), .ref (a 6), .ref (a 7), .ref (a 8), .ref (a 9), .ref (a 10), .ref (a 11), .ref (a 12), .ref (a 13), .ref (a 14), .ref (a 15), .ref (a 16), .ref (a 17), .ref (a 18), .ref (a 19), .int 0, .int 0, .int tk, .int 0, .int 0, .ref (a 25), .ref (a 26), .ref (a 27), .ref (a 28), .ref (a 29), .ref (a 30), .ref (a 31), .ref (a 32), .int 0, .ref (a 34), .ref (a 35), .ref (a 36), .ref (a 37), .int 0, .int (-1), .ref (a 40), .ref (a 41), .ref (a 42), .ref (a 43), .ref (a 44), .int 0]))] U.heap ∧ va_K (dC, dI) vwCl [] U ∧ va_D (fun _ => True) [(h0, .inr (10, [.ref (a 0), .ref (a 1), .ref (a 2), .ref (a 3), .ref (a 4), .ref (a 5), .ref (a 6), .ref (a 7), .ref (a 8), .ref (a 9), .ref (a 10), .ref (a 11), .ref (a 12), .ref (a 13), .ref (a 14), .ref (a 15), .ref (a 16), .ref (a 17), .ref (a 18), .ref (a 19), .int 0, .int 0, .int tk, .int 0, .int 0, .ref (a 25), .ref (a 26), .ref (a 27), .ref (a 28), .ref (a 29), .ref (a 30), .ref (a 31), .ref (a 32), .int 0, .ref (a 34), .ref (a 35), .ref (a 36), .ref (a 37), .int 0, .int (-1), .ref (a 40), .ref (a 41), .ref (a 42), .ref (a 43), .ref (a 44), .int 0]))] ∧ pw_N U)) (va_Qi (fun (r : Int32) (_ : Unit) => r = (-1)) (fun (_ : Unit) (t : State) => True) (va_A [(h0, .inr (10, [.ref (a 0), .ref (a 1), .ref (a 2), .ref (a 3), .ref (a 4), .ref (a 5), .ref (a 6), .ref (a 7), .ref (a 8), .ref (a 9), .ref (a 10), .ref (a 11), .ref (a 12), .ref (a 13), .ref (a 14), .ref (a 15), .ref (a 16), .ref (a 17), .ref (a 18), .ref (a 19), .int 0, .int 0, .int tk, .int 0, .int 0, .ref (a 25), .ref (a 26), .ref (a 27), .ref (a 28), .ref (a 29), .ref (a 30), .ref (a 31), .ref (a 32), .int 0, .ref (a 34), .ref (a 35), .ref (a 36), .ref (a 37), .int 0, .int (-1), .ref (a 40), .ref (a 41), .ref (a 42), .ref (a 43), .ref (a 44), .int 0]))] sz)) 0 0 (va_A [(h0, .inr (10, [.ref (a 0), .ref (a 1), .ref (a 2), .ref (a 3), .ref (a 4), .ref (a 5), .ref (a 6), .ref (a 7), .ref (a 8), .ref (a 9), .ref (a 10), .ref (a 11), .ref (a 12), .ref (a 13), .ref (a 14), .ref (a 15), .ref (a 16), .ref (a 17), .ref (a 18), .ref (a 19), .int 0, .int 0, .int tk, .int 0, .int 0, .ref (a 25), .ref (a 26), .ref (a 27), .ref (a 28), .ref (a 29), .ref (a 30), .ref (a 31), .ref (a 32), .int 0, .ref (a 34), .ref (a 35), .ref (a 36), .ref (a 37), .int 0, .int (-1), .ref (a 40), .ref (a 41), .ref (a 42), .ref (a 43), .ref (a 44), .int 0]))] sz) := by
  refine Met.ofW (cc := cX9_again) (maxL := 5) (ret := (some .int)) (by decide) rfl ?_
  intro p e s m args below meth c s₁ B hml hv
  obtain ⟨rfl, hsz, hP, hK, hD0, hN⟩ := hv
  have hx := B.exec
  have hb := B.bytes
  have hr := B.returns
  have hts := atoms_spec (ws := wq_m_again) B.pre
  have hown : s.vm.findClass RX9 = some m.cls := findClass_of_methodNamed B.named
  have hlocks := B.notSynchronized
  subst hsz
  have hD := hD0.self (sz := s.heap.size)
  generalize hAe : va_A [(h0, .inr (10, [.ref (a 0), .ref (a 1), .ref (a 2), .ref (a 3), .ref (a 4), .ref (a 5), .ref (a 6), .ref (a 7), .ref (a 8), .ref (a 9), .ref (a 10), .ref (a 11), .ref (a 12), .ref (a 13), .ref (a 14), .ref (a 15), .ref (a 16), .ref (a 17), .ref (a 18), .ref (a 19), .int 0, .int 0, .int tk, .int 0, .int 0, .ref (a 25), .ref (a 26), .ref (a 27), .ref (a 28), .ref (a 29), .ref (a 30), .ref (a 31), .ref (a 32), .int 0, .ref (a 34), .ref (a 35), .ref (a 36), .ref (a 37), .int 0, .int (-1), .ref (a 40), .ref (a 41), .ref (a 42), .ref (a 43), .ref (a 44), .int 0]))] s.heap.size = A at hD ⊢
  have hA : ∀ q : Nat, s.heap.size ≤ q → A q := fun q h => by rw [← hAe]; exact Or.inr h
  have hS : va_S A s.heap s.heap [] := va_S.rf
  have hP : va_P (dC, dI) vwCl [(h0, .inr (10, [.ref (a 0), .ref (a 1), .ref (a 2), .ref (a 3), .ref (a 4), .ref (a 5), .ref (a 6), .ref (a 7), .ref (a 8), .ref (a 9), .ref (a 10), .ref (a 11), .ref (a 12), .ref (a 13), .ref (a 14), .ref (a 15), .ref (a 16), .ref (a 17), .ref (a 18), .ref (a 19), .int 0, .int 0, .int tk, .int 0, .int 0, .ref (a 25), .ref (a 26), .ref (a 27), .ref (a 28), .ref (a 29), .ref (a 30), .ref (a 31), .ref (a 32), .int 0, .ref (a 34), .ref (a 35), .ref (a 36), .ref (a 37), .int 0, .int (-1), .ref (a 40), .ref (a 41), .ref (a 42), .ref (a 43), .ref (a 44), .int 0]))] s.heap := hP
  have hl := lv_entry ([.ref h0, .int p0, .int p1, .int p2, .int p3]) (n := 5) (Nat.le_of_ble_eq_true rfl)
  rw [lg_entry_eq]
  generalize (lg_sl ([.ref h0, .int p0, .int p1, .int p2, .int p3]) ++ List.replicate (5 - (lg_sl ([.ref h0, .int p0, .int p1, .int p2, .int p3])).length) Slot.unset).toArray = ls at hl ⊢
  have hl : lv_has ls 5 [(0, .ref h0), (1, .int p0), (2, .int p1), (3, .int p2), (4, .int p3)] := hl
  refine lv_aload_n hx hb dX9_again_0 rfl (lv_at hl 0 rfl) ?_
  refine lv_iload_n hx hb dX9_again_1 rfl (lv_at hl 1 rfl) ?_
  have hPc := hP.sub (ws' := [(h0, .inr (10, [.ref (a 0), .ref (a 1), .ref (a 2), .ref (a 3), .ref (a 4), .ref (a 5), .ref (a 6), .ref (a 7), .ref (a 8), .ref (a 9), .ref (a 10), .ref (a 11), .ref (a 12), .ref (a 13), .ref (a 14), .ref (a 15), .ref (a 16), .ref (a 17), .ref (a 18), .ref (a 19), .int 0, .int 0, .int tk, .int 0, .int 0, .ref (a 25), .ref (a 26), .ref (a 27), .ref (a 28), .ref (a 29), .ref (a 30), .ref (a 31), .ref (a 32), .int 0, .ref (a 34), .ref (a 35), .ref (a 36), .ref (a 37), .int 0, .int (-1), .ref (a 40), .ref (a 41), .ref (a 42), .ref (a 43), .ref (a 44), .int 0]))]) [0] rfl
  have hDc := hD.sub (ws' := [(h0, .inr (10, [.ref (a 0), .ref (a 1), .ref (a 2), .ref (a 3), .ref (a 4), .ref (a 5), .ref (a 6), .ref (a 7), .ref (a 8), .ref (a 9), .ref (a 10), .ref (a 11), .ref (a 12), .ref (a 13), .ref (a 14), .ref (a 15), .ref (a 16), .ref (a 17), .ref (a 18), .ref (a 19), .int 0, .int 0, .int tk, .int 0, .int 0, .ref (a 25), .ref (a 26), .ref (a 27), .ref (a 28), .ref (a 29), .ref (a 30), .ref (a 31), .ref (a 32), .int 0, .ref (a 34), .ref (a 35), .ref (a 36), .ref (a 37), .int 0, .int (-1), .ref (a 40), .ref (a 41), .ref (a 42), .ref (a 43), .ref (a 44), .int 0]))]) [0] (by decide) rfl
  have hKc := hK.sub (tys' := []) [] rfl
  have hFc := va_free (wc := [(h0, .inr (10, [.ref (a 0), .ref (a 1), .ref (a 2), .ref (a 3), .ref (a 4), .ref (a 5), .ref (a 6), .ref (a 7), .ref (a 8), .ref (a 9), .ref (a 10), .ref (a 11), .ref (a 12), .ref (a 13), .ref (a 14), .ref (a 15), .ref (a 16), .ref (a 17), .ref (a 18), .ref (a 19), .int 0, .int 0, .int tk, .int 0, .int 0, .ref (a 25), .ref (a 26), .ref (a 27), .ref (a 28), .ref (a 29), .ref (a 30), .ref (a 31), .ref (a 32), .int 0, .ref (a 34), .ref (a 35), .ref (a 36), .ref (a 37), .int 0, .int (-1), .ref (a 40), .ref (a 41), .ref (a 42), .ref (a 43), .ref (a 44), .int 0]))]) hD hS hA [0] rfl
  refine va_calli (va_runV (As := [.int p0]) (rest := []) ⟨hx, hb, hml, hown, hts⟩ (c_is l dC dI h0 a tk p0 s.heap.size) (cwV 1 hts wc_m_again_is_135 rfl rfl rfl (by decide +kernel) ⟨Nat.le_of_ble_eq_true rfl, Nat.le_of_ble_eq_true rfl⟩) ⟨fun a U g mk q => by obtain ⟨q0, q1, qP, qK, qD, qN⟩ := q; exact ⟨q0, q1, qP, va_K.moved (u := U) (U := U.calling g mk a) (Vm.Alike.refl U.vm) qK, qD, pw_N.same (u := U) (U := U.calling g mk a) rfl qN⟩, va_recv hKc hPc (ci := 10) (q0 := 0) rfl rfl, fun U hU hW => ⟨rfl, by rw [hU], by rw [hU]; exact hPc, va_K.moved hW.alike hKc, hDc.weaken (fun _ _ _ _ => trivial), pw_N.warm hW hN⟩⟩ rfl rfl hl.1 rfl (lv_room (Nat.le_of_ble_eq_true rfl)) dX9_again_2 ⟨Nat.le_of_ble_eq_true rfl, Nat.le_of_ble_eq_true rfl⟩) hS (fun q _ h => hFc q h) hFc (fun r_1 u t H1 locs ht hvm hw hB hz1 hk1 hS => ?_)
  obtain ⟨hP1, hD1⟩ := hB
  rw [ht] at hP1
  obtain ⟨hP, hD⟩ := va_join (wr := []) (w1 := [(h0, .inr (10, [.ref (a 0), .ref (a 1), .ref (a 2), .ref (a 3), .ref (a 4), .ref (a 5), .ref (a 6), .ref (a 7), .ref (a 8), .ref (a 9), .ref (a 10), .ref (a 11), .ref (a 12), .ref (a 13), .ref (a 14), .ref (a 15), .ref (a 16), .ref (a 17), .ref (a 18), .ref (a 19), .int 0, .int 0, .int tk, .int 0, .int 0, .ref (a 25), .ref (a 26), .ref (a 27), .ref (a 28), .ref (a 29), .ref (a 30), .ref (a 31), .ref (a 32), .int 0, .ref (a 34), .ref (a 35), .ref (a 36), .ref (a 37), .int 0, .int (-1), .ref (a 40), .ref (a 41), .ref (a 42), .ref (a 43), .ref (a 44), .int 0]))]) hP hD [0] [] rfl rfl (by decide) (by decide) hk1 hFc hP1 hD1
  generalize H1 = H at hP hS ⊢
  replace hP : va_P (dC, dI) vwCl [(h0, .inr (10, [.ref (a 0), .ref (a 1), .ref (a 2), .ref (a 3), .ref (a 4), .ref (a 5), .ref (a 6), .ref (a 7), .ref (a 8), .ref (a 9), .ref (a 10), .ref (a 11), .ref (a 12), .ref (a 13), .ref (a 14), .ref (a 15), .ref (a 16), .ref (a 17), .ref (a 18), .ref (a 19), .int 0, .int 0, .int tk, .int 0, .int 0, .ref (a 25), .ref (a 26), .ref (a 27), .ref (a 28), .ref (a 29), .ref (a 30), .ref (a 31), .ref (a 32), .int 0, .ref (a 34), .ref (a 35), .ref (a 36), .ref (a 37), .int 0, .int (-1), .ref (a 40), .ref (a 41), .ref (a 42), .ref (a 43), .ref (a 44), .int 0]))] H := hP
  replace hD : va_D A [(h0, .inr (10, [.ref (a 0), .ref (a 1), .ref (a 2), .ref (a 3), .ref (a 4), .ref (a 5), .ref (a 6), .ref (a 7), .ref (a 8), .ref (a 9), .ref (a 10), .ref (a 11), .ref (a 12), .ref (a 13), .ref (a 14), .ref (a 15), .ref (a 16), .ref (a 17), .ref (a 18), .ref (a 19), .int 0, .int 0, .int tk, .int 0, .int 0, .ref (a 25), .ref (a 26), .ref (a 27), .ref (a 28), .ref (a 29), .ref (a 30), .ref (a 31), .ref (a 32), .int 0, .ref (a 34), .ref (a 35), .ref (a 36), .ref (a 37), .int 0, .int (-1), .ref (a 40), .ref (a 41), .ref (a 42), .ref (a 43), .ref (a 44), .int 0]))] := hD
  try dsimp only at hw
  subst hw
  refine lv_if_eq (tgt := 43) hx hb dX9_again_5 (by decide) (fun _ => ?_) (fun c9 => absurd (by decide) c9)
  refine lv_iconst (v := (-1)) hx hb dX9_again_43 (by decide) ?_
  exact W.iret (v := (-1)) hx hb hr (fun t ht hW => ⟨⟨(-1), (), rfl, rfl, trivial⟩, hS.F ht⟩) hS.2.2 dX9_again_44
def wq_m_relation : List Cond := [.code yX9_relation cX9_relation 4 (some .int), .methodLink RX9 139 yX9_isPair, .instanceMethod yX9_isPair, .selects RX9 yX9_isPair yX9_isPair, .initialized RX9] ++ (wq_isPair)
set_option maxRecDepth 20000 in
theorem wi_m_relation : ∀ w ∈ wq_m_relation, w ∈ lw_tbl := List.forall_mem_append.mpr ⟨(by decide +kernel), wi_isPair⟩
set_option maxRecDepth 20000 in
theorem wg_m_relation : GoodIn wq_m_relation wq_m_relation := goodIn_sub (fun _ h => h) (by decide +kernel)
set_option maxRecDepth 20000 in
theorem wc_m_relation_isPair_139 : GoodIn wq_m_relation (wsV RX9 139 RX9 yX9_isPair wq_isPair) := goodIn_app (goodIn_of _ (by decide +kernel)) (fun w h => ⟨List.mem_append_right _ (h), (wg_isPair w h).2⟩)
set_option maxHeartbeats 4000000 in
set_option maxRecDepth 100000 in
theorem c_m_relation (l : Launch) (dC : Nat → ClassId) (dI : Nat → Nat → Nat) (h0 : Nat) (a : Nat → Nat) (tk : Int32) (p0 : Int32) (p1 : Int32) (p2 : Int32) (sz : Nat) : Met l yX9_relation wq_m_relation ({ frames := 2, cells := 0, slots := 0, locals := 44 }) (va_Pc [.ref h0, .int p0, .int p1, .int p2] (fun U => U.heap.size = sz ∧ va_P (dC, dI) vwCl [(h0, .inr (10, [.ref (a 0), .ref (a 1), .ref (a 2), .ref (a 3), .ref (a 4), .ref (a 5), .ref (a 6), .ref (a 7), .ref (a 8), .ref (a 9), .ref (a 10), .ref (a 11), .ref (a 12), .ref (a 13), .ref (a 14), .ref (a 15), .ref (a 16), .ref (a 17), .ref (a 18), .ref (a 19), .int 0, .int 0, .int tk, .int 0, .int 0, .ref (a 25), .ref (a 26), .ref (a 27), .ref (a 28), .ref (a 29), .ref (a 30), .ref (a 31), .ref (a 32), .int 0, .ref (a 34), .ref (a 35), .ref (a 36), .ref (a 37), .int 0, .int (-1), .ref (a 40), .ref (a 41), .ref (a 42), .ref (a 43), .ref (a 44), .int 0]))] U.heap ∧ va_K (dC, dI) vwCl [] U ∧ va_D (fun _ => True) [(h0, .inr (10, [.ref (a 0), .ref (a 1), .ref (a 2), .ref (a 3), .ref (a 4), .ref (a 5), .ref (a 6), .ref (a 7), .ref (a 8), .ref (a 9), .ref (a 10), .ref (a 11), .ref (a 12), .ref (a 13), .ref (a 14), .ref (a 15), .ref (a 16), .ref (a 17), .ref (a 18), .ref (a 19), .int 0, .int 0, .int tk, .int 0, .int 0, .ref (a 25), .ref (a 26), .ref (a 27), .ref (a 28), .ref (a 29), .ref (a 30), .ref (a 31), .ref (a 32), .int 0, .ref (a 34), .ref (a 35), .ref (a 36), .ref (a 37), .int 0, .int (-1), .ref (a 40), .ref (a 41), .ref (a 42), .ref (a 43), .ref (a 44), .int 0]))] ∧ pw_N U)) (va_Qi (fun (r : Int32) (_ : Unit) => r = (-1)) (fun (_ : Unit) (t : State) => True) (va_A [(h0, .inr (10, [.ref (a 0), .ref (a 1), .ref (a 2), .ref (a 3), .ref (a 4), .ref (a 5), .ref (a 6), .ref (a 7), .ref (a 8), .ref (a 9), .ref (a 10), .ref (a 11), .ref (a 12), .ref (a 13), .ref (a 14), .ref (a 15), .ref (a 16), .ref (a 17), .ref (a 18), .ref (a 19), .int 0, .int 0, .int tk, .int 0, .int 0, .ref (a 25), .ref (a 26), .ref (a 27), .ref (a 28), .ref (a 29), .ref (a 30), .ref (a 31), .ref (a 32), .int 0, .ref (a 34), .ref (a 35), .ref (a 36), .ref (a 37), .int 0, .int (-1), .ref (a 40), .ref (a 41), .ref (a 42), .ref (a 43), .ref (a 44), .int 0]))] sz)) 0 0 (va_A [(h0, .inr (10, [.ref (a 0), .ref (a 1), .ref (a 2), .ref (a 3), .ref (a 4), .ref (a 5), .ref (a 6), .ref (a 7), .ref (a 8), .ref (a 9), .ref (a 10), .ref (a 11), .ref (a 12), .ref (a 13), .ref (a 14), .ref (a 15), .ref (a 16), .ref (a 17), .ref (a 18), .ref (a 19), .int 0, .int 0, .int tk, .int 0, .int 0, .ref (a 25), .ref (a 26), .ref (a 27), .ref (a 28), .ref (a 29), .ref (a 30), .ref (a 31), .ref (a 32), .int 0, .ref (a 34), .ref (a 35), .ref (a 36), .ref (a 37), .int 0, .int (-1), .ref (a 40), .ref (a 41), .ref (a 42), .ref (a 43), .ref (a 44), .int 0]))] sz) := by
  refine Met.ofW (cc := cX9_relation) (maxL := 4) (ret := (some .int)) (by decide) rfl ?_
  intro p e s m args below meth c s₁ B hml hv
  obtain ⟨rfl, hsz, hP, hK, hD0, hN⟩ := hv
  have hx := B.exec
  have hb := B.bytes
  have hr := B.returns
  have hts := atoms_spec (ws := wq_m_relation) B.pre
  have hown : s.vm.findClass RX9 = some m.cls := findClass_of_methodNamed B.named
  have hlocks := B.notSynchronized
  subst hsz
  have hD := hD0.self (sz := s.heap.size)
  generalize hAe : va_A [(h0, .inr (10, [.ref (a 0), .ref (a 1), .ref (a 2), .ref (a 3), .ref (a 4), .ref (a 5), .ref (a 6), .ref (a 7), .ref (a 8), .ref (a 9), .ref (a 10), .ref (a 11), .ref (a 12), .ref (a 13), .ref (a 14), .ref (a 15), .ref (a 16), .ref (a 17), .ref (a 18), .ref (a 19), .int 0, .int 0, .int tk, .int 0, .int 0, .ref (a 25), .ref (a 26), .ref (a 27), .ref (a 28), .ref (a 29), .ref (a 30), .ref (a 31), .ref (a 32), .int 0, .ref (a 34), .ref (a 35), .ref (a 36), .ref (a 37), .int 0, .int (-1), .ref (a 40), .ref (a 41), .ref (a 42), .ref (a 43), .ref (a 44), .int 0]))] s.heap.size = A at hD ⊢
  have hA : ∀ q : Nat, s.heap.size ≤ q → A q := fun q h => by rw [← hAe]; exact Or.inr h
  have hS : va_S A s.heap s.heap [] := va_S.rf
  have hP : va_P (dC, dI) vwCl [(h0, .inr (10, [.ref (a 0), .ref (a 1), .ref (a 2), .ref (a 3), .ref (a 4), .ref (a 5), .ref (a 6), .ref (a 7), .ref (a 8), .ref (a 9), .ref (a 10), .ref (a 11), .ref (a 12), .ref (a 13), .ref (a 14), .ref (a 15), .ref (a 16), .ref (a 17), .ref (a 18), .ref (a 19), .int 0, .int 0, .int tk, .int 0, .int 0, .ref (a 25), .ref (a 26), .ref (a 27), .ref (a 28), .ref (a 29), .ref (a 30), .ref (a 31), .ref (a 32), .int 0, .ref (a 34), .ref (a 35), .ref (a 36), .ref (a 37), .int 0, .int (-1), .ref (a 40), .ref (a 41), .ref (a 42), .ref (a 43), .ref (a 44), .int 0]))] s.heap := hP
  have hl := lv_entry ([.ref h0, .int p0, .int p1, .int p2]) (n := 4) (Nat.le_of_ble_eq_true rfl)
  rw [lg_entry_eq]
  generalize (lg_sl ([.ref h0, .int p0, .int p1, .int p2]) ++ List.replicate (4 - (lg_sl ([.ref h0, .int p0, .int p1, .int p2])).length) Slot.unset).toArray = ls at hl ⊢
  have hl : lv_has ls 4 [(0, .ref h0), (1, .int p0), (2, .int p1), (3, .int p2)] := hl
  refine lv_aload_n hx hb dX9_relation_0 rfl (lv_at hl 0 rfl) ?_
  refine lv_iload_n hx hb dX9_relation_1 rfl (lv_at hl 1 rfl) ?_
  refine lv_iload_n hx hb dX9_relation_2 rfl (lv_at hl 2 rfl) ?_
  refine lv_iload_n hx hb dX9_relation_3 rfl (lv_at hl 3 rfl) ?_
  have hPc := hP.sub (ws' := [(h0, .inr (10, [.ref (a 0), .ref (a 1), .ref (a 2), .ref (a 3), .ref (a 4), .ref (a 5), .ref (a 6), .ref (a 7), .ref (a 8), .ref (a 9), .ref (a 10), .ref (a 11), .ref (a 12), .ref (a 13), .ref (a 14), .ref (a 15), .ref (a 16), .ref (a 17), .ref (a 18), .ref (a 19), .int 0, .int 0, .int tk, .int 0, .int 0, .ref (a 25), .ref (a 26), .ref (a 27), .ref (a 28), .ref (a 29), .ref (a 30), .ref (a 31), .ref (a 32), .int 0, .ref (a 34), .ref (a 35), .ref (a 36), .ref (a 37), .int 0, .int (-1), .ref (a 40), .ref (a 41), .ref (a 42), .ref (a 43), .ref (a 44), .int 0]))]) [0] rfl
  have hDc := hD.sub (ws' := [(h0, .inr (10, [.ref (a 0), .ref (a 1), .ref (a 2), .ref (a 3), .ref (a 4), .ref (a 5), .ref (a 6), .ref (a 7), .ref (a 8), .ref (a 9), .ref (a 10), .ref (a 11), .ref (a 12), .ref (a 13), .ref (a 14), .ref (a 15), .ref (a 16), .ref (a 17), .ref (a 18), .ref (a 19), .int 0, .int 0, .int tk, .int 0, .int 0, .ref (a 25), .ref (a 26), .ref (a 27), .ref (a 28), .ref (a 29), .ref (a 30), .ref (a 31), .ref (a 32), .int 0, .ref (a 34), .ref (a 35), .ref (a 36), .ref (a 37), .int 0, .int (-1), .ref (a 40), .ref (a 41), .ref (a 42), .ref (a 43), .ref (a 44), .int 0]))]) [0] (by decide) rfl
  have hKc := hK.sub (tys' := []) [] rfl
  have hFc := va_free (wc := [(h0, .inr (10, [.ref (a 0), .ref (a 1), .ref (a 2), .ref (a 3), .ref (a 4), .ref (a 5), .ref (a 6), .ref (a 7), .ref (a 8), .ref (a 9), .ref (a 10), .ref (a 11), .ref (a 12), .ref (a 13), .ref (a 14), .ref (a 15), .ref (a 16), .ref (a 17), .ref (a 18), .ref (a 19), .int 0, .int 0, .int tk, .int 0, .int 0, .ref (a 25), .ref (a 26), .ref (a 27), .ref (a 28), .ref (a 29), .ref (a 30), .ref (a 31), .ref (a 32), .int 0, .ref (a 34), .ref (a 35), .ref (a 36), .ref (a 37), .int 0, .int (-1), .ref (a 40), .ref (a 41), .ref (a 42), .ref (a 43), .ref (a 44), .int 0]))]) hD hS hA [0] rfl
  refine va_calli (va_runV (As := [.int p0, .int p1, .int p2]) (rest := []) ⟨hx, hb, hml, hown, hts⟩ (c_isPair l dC dI h0 a tk p0 p1 p2 s.heap.size) (cwV 3 hts wc_m_relation_isPair_139 rfl rfl rfl (by decide +kernel) ⟨Nat.le_of_ble_eq_true rfl, Nat.le_of_ble_eq_true rfl⟩) ⟨fun a U g mk q => by obtain ⟨q0, q1, qP, qK, qD, qN⟩ := q; exact ⟨q0, q1, qP, va_K.moved (u := U) (U := U.calling g mk a) (Vm.Alike.refl U.vm) qK, qD, pw_N.same (u := U) (U := U.calling g mk a) rfl qN⟩, va_recv hKc hPc (ci := 10) (q0 := 0) rfl rfl, fun U hU hW => ⟨rfl, by rw [hU], by rw [hU]; exact hPc, va_K.moved hW.alike hKc, hDc.weaken (fun _ _ _ _ => trivial), pw_N.warm hW hN⟩⟩ rfl rfl hl.1 rfl (lv_room (Nat.le_of_ble_eq_true rfl)) dX9_relation_4 ⟨Nat.le_of_ble_eq_true rfl, Nat.le_of_ble_eq_true rfl⟩) hS (fun q _ h => hFc q h) hFc (fun r_1 u t H1 locs ht hvm hw hB hz1 hk1 hS => ?_)
  obtain ⟨hP1, hD1⟩ := hB
  rw [ht] at hP1
  obtain ⟨hP, hD⟩ := va_join (wr := []) (w1 := [(h0, .inr (10, [.ref (a 0), .ref (a 1), .ref (a 2), .ref (a 3), .ref (a 4), .ref (a 5), .ref (a 6), .ref (a 7), .ref (a 8), .ref (a 9), .ref (a 10), .ref (a 11), .ref (a 12), .ref (a 13), .ref (a 14), .ref (a 15), .ref (a 16), .ref (a 17), .ref (a 18), .ref (a 19), .int 0, .int 0, .int tk, .int 0, .int 0, .ref (a 25), .ref (a 26), .ref (a 27), .ref (a 28), .ref (a 29), .ref (a 30), .ref (a 31), .ref (a 32), .int 0, .ref (a 34), .ref (a 35), .ref (a 36), .ref (a 37), .int 0, .int (-1), .ref (a 40), .ref (a 41), .ref (a 42), .ref (a 43), .ref (a 44), .int 0]))]) hP hD [0] [] rfl rfl (by decide) (by decide) hk1 hFc hP1 hD1
  generalize H1 = H at hP hS ⊢
  replace hP : va_P (dC, dI) vwCl [(h0, .inr (10, [.ref (a 0), .ref (a 1), .ref (a 2), .ref (a 3), .ref (a 4), .ref (a 5), .ref (a 6), .ref (a 7), .ref (a 8), .ref (a 9), .ref (a 10), .ref (a 11), .ref (a 12), .ref (a 13), .ref (a 14), .ref (a 15), .ref (a 16), .ref (a 17), .ref (a 18), .ref (a 19), .int 0, .int 0, .int tk, .int 0, .int 0, .ref (a 25), .ref (a 26), .ref (a 27), .ref (a 28), .ref (a 29), .ref (a 30), .ref (a 31), .ref (a 32), .int 0, .ref (a 34), .ref (a 35), .ref (a 36), .ref (a 37), .int 0, .int (-1), .ref (a 40), .ref (a 41), .ref (a 42), .ref (a 43), .ref (a 44), .int 0]))] H := hP
  replace hD : va_D A [(h0, .inr (10, [.ref (a 0), .ref (a 1), .ref (a 2), .ref (a 3), .ref (a 4), .ref (a 5), .ref (a 6), .ref (a 7), .ref (a 8), .ref (a 9), .ref (a 10), .ref (a 11), .ref (a 12), .ref (a 13), .ref (a 14), .ref (a 15), .ref (a 16), .ref (a 17), .ref (a 18), .ref (a 19), .int 0, .int 0, .int tk, .int 0, .int 0, .ref (a 25), .ref (a 26), .ref (a 27), .ref (a 28), .ref (a 29), .ref (a 30), .ref (a 31), .ref (a 32), .int 0, .ref (a 34), .ref (a 35), .ref (a 36), .ref (a 37), .int 0, .int (-1), .ref (a 40), .ref (a 41), .ref (a 42), .ref (a 43), .ref (a 44), .int 0]))] := hD
  try dsimp only at hw
  subst hw
  refine lv_if_ne (tgt := 12) hx hb dX9_relation_7 (by decide) (fun c9 => absurd (by decide) c9) (fun _ => ?_)
  refine lv_iconst (v := (-1)) hx hb dX9_relation_10 (by decide) ?_
  exact W.iret (v := (-1)) hx hb hr (fun t ht hW => ⟨⟨(-1), (), rfl, rfl, trivial⟩, hS.F ht⟩) hS.2.2 dX9_relation_11
def wq_m_undo : List Cond := [.code yX9_undo cX9_undo 4 (some .int), .methodLink RX9 139 yX9_isPair, .instanceMethod yX9_isPair, .selects RX9 yX9_isPair yX9_isPair, .initialized RX9] ++ (wq_isPair)
set_option maxRecDepth 20000 in
theorem wi_m_undo : ∀ w ∈ wq_m_undo, w ∈ lw_tbl := List.forall_mem_append.mpr ⟨(by decide +kernel), wi_isPair⟩
set_option maxRecDepth 20000 in
theorem wg_m_undo : GoodIn wq_m_undo wq_m_undo := goodIn_sub (fun _ h => h) (by decide +kernel)
set_option maxRecDepth 20000 in
theorem wc_m_undo_isPair_139 : GoodIn wq_m_undo (wsV RX9 139 RX9 yX9_isPair wq_isPair) := goodIn_app (goodIn_of _ (by decide +kernel)) (fun w h => ⟨List.mem_append_right _ (h), (wg_isPair w h).2⟩)
set_option maxHeartbeats 4000000 in
set_option maxRecDepth 100000 in
theorem c_m_undo (l : Launch) (dC : Nat → ClassId) (dI : Nat → Nat → Nat) (h0 : Nat) (a : Nat → Nat) (tk : Int32) (p0 : Int32) (p1 : Int32) (p2 : Int32) (sz : Nat) : Met l yX9_undo wq_m_undo ({ frames := 2, cells := 0, slots := 0, locals := 44 }) (va_Pc [.ref h0, .int p0, .int p1, .int p2] (fun U => U.heap.size = sz ∧ va_P (dC, dI) vwCl [(h0, .inr (10, [.ref (a 0), .ref (a 1), .ref (a 2), .ref (a 3), .ref (a 4), .ref (a 5), .ref (a 6), .ref (a 7), .ref (a 8), .ref (a 9), .ref (a 10), .ref (a 11), .ref (a 12), .ref (a 13), .ref (a 14), .ref (a 15), .ref (a 16), .ref (a 17), .ref (a 18), .ref (a 19), .int 0, .int 0, .int tk, .int 0, .int 0, .ref (a 25), .ref (a 26), .ref (a 27), .ref (a 28), .ref (a 29), .ref (a 30), .ref (a 31), .ref (a 32), .int 0, .ref (a 34), .ref (a 35), .ref (a 36), .ref (a 37), .int 0, .int (-1), .ref (a 40), .ref (a 41), .ref (a 42), .ref (a 43), .ref (a 44), .int 0]))] U.heap ∧ va_K (dC, dI) vwCl [] U ∧ va_D (fun _ => True) [(h0, .inr (10, [.ref (a 0), .ref (a 1), .ref (a 2), .ref (a 3), .ref (a 4), .ref (a 5), .ref (a 6), .ref (a 7), .ref (a 8), .ref (a 9), .ref (a 10), .ref (a 11), .ref (a 12), .ref (a 13), .ref (a 14), .ref (a 15), .ref (a 16), .ref (a 17), .ref (a 18), .ref (a 19), .int 0, .int 0, .int tk, .int 0, .int 0, .ref (a 25), .ref (a 26), .ref (a 27), .ref (a 28), .ref (a 29), .ref (a 30), .ref (a 31), .ref (a 32), .int 0, .ref (a 34), .ref (a 35), .ref (a 36), .ref (a 37), .int 0, .int (-1), .ref (a 40), .ref (a 41), .ref (a 42), .ref (a 43), .ref (a 44), .int 0]))] ∧ pw_N U)) (va_Qi (fun (r : Int32) (_ : Unit) => r = (-1)) (fun (_ : Unit) (t : State) => True) (va_A [(h0, .inr (10, [.ref (a 0), .ref (a 1), .ref (a 2), .ref (a 3), .ref (a 4), .ref (a 5), .ref (a 6), .ref (a 7), .ref (a 8), .ref (a 9), .ref (a 10), .ref (a 11), .ref (a 12), .ref (a 13), .ref (a 14), .ref (a 15), .ref (a 16), .ref (a 17), .ref (a 18), .ref (a 19), .int 0, .int 0, .int tk, .int 0, .int 0, .ref (a 25), .ref (a 26), .ref (a 27), .ref (a 28), .ref (a 29), .ref (a 30), .ref (a 31), .ref (a 32), .int 0, .ref (a 34), .ref (a 35), .ref (a 36), .ref (a 37), .int 0, .int (-1), .ref (a 40), .ref (a 41), .ref (a 42), .ref (a 43), .ref (a 44), .int 0]))] sz)) 0 0 (va_A [(h0, .inr (10, [.ref (a 0), .ref (a 1), .ref (a 2), .ref (a 3), .ref (a 4), .ref (a 5), .ref (a 6), .ref (a 7), .ref (a 8), .ref (a 9), .ref (a 10), .ref (a 11), .ref (a 12), .ref (a 13), .ref (a 14), .ref (a 15), .ref (a 16), .ref (a 17), .ref (a 18), .ref (a 19), .int 0, .int 0, .int tk, .int 0, .int 0, .ref (a 25), .ref (a 26), .ref (a 27), .ref (a 28), .ref (a 29), .ref (a 30), .ref (a 31), .ref (a 32), .int 0, .ref (a 34), .ref (a 35), .ref (a 36), .ref (a 37), .int 0, .int (-1), .ref (a 40), .ref (a 41), .ref (a 42), .ref (a 43), .ref (a 44), .int 0]))] sz) := by
  refine Met.ofW (cc := cX9_undo) (maxL := 4) (ret := (some .int)) (by decide) rfl ?_
  intro p e s m args below meth c s₁ B hml hv
  obtain ⟨rfl, hsz, hP, hK, hD0, hN⟩ := hv
  have hx := B.exec
  have hb := B.bytes
  have hr := B.returns
  have hts := atoms_spec (ws := wq_m_undo) B.pre
  have hown : s.vm.findClass RX9 = some m.cls := findClass_of_methodNamed B.named
  have hlocks := B.notSynchronized
  subst hsz
  have hD := hD0.self (sz := s.heap.size)
  generalize hAe : va_A [(h0, .inr (10, [.ref (a 0), .ref (a 1), .ref (a 2), .ref (a 3), .ref (a 4), .ref (a 5), .ref (a 6), .ref (a 7), .ref (a 8), .ref (a 9), .ref (a 10), .ref (a 11), .ref (a 12), .ref (a 13), .ref (a 14), .ref (a 15), .ref (a 16), .ref (a 17), .ref (a 18), .ref (a 19), .int 0, .int 0, .int tk, .int 0, .int 0, .ref (a 25), .ref (a 26), .ref (a 27), .ref (a 28), .ref (a 29), .ref (a 30), .ref (a 31), .ref (a 32), .int 0, .ref (a 34), .ref (a 35), .ref (a 36), .ref (a 37), .int 0, .int (-1), .ref (a 40), .ref (a 41), .ref (a 42), .ref (a 43), .ref (a 44), .int 0]))] s.heap.size = A at hD ⊢
  have hA : ∀ q : Nat, s.heap.size ≤ q → A q := fun q h => by rw [← hAe]; exact Or.inr h
  have hS : va_S A s.heap s.heap [] := va_S.rf
  have hP : va_P (dC, dI) vwCl [(h0, .inr (10, [.ref (a 0), .ref (a 1), .ref (a 2), .ref (a 3), .ref (a 4), .ref (a 5), .ref (a 6), .ref (a 7), .ref (a 8), .ref (a 9), .ref (a 10), .ref (a 11), .ref (a 12), .ref (a 13), .ref (a 14), .ref (a 15), .ref (a 16), .ref (a 17), .ref (a 18), .ref (a 19), .int 0, .int 0, .int tk, .int 0, .int 0, .ref (a 25), .ref (a 26), .ref (a 27), .ref (a 28), .ref (a 29), .ref (a 30), .ref (a 31), .ref (a 32), .int 0, .ref (a 34), .ref (a 35), .ref (a 36), .ref (a 37), .int 0, .int (-1), .ref (a 40), .ref (a 41), .ref (a 42), .ref (a 43), .ref (a 44), .int 0]))] s.heap := hP
  have hl := lv_entry ([.ref h0, .int p0, .int p1, .int p2]) (n := 4) (Nat.le_of_ble_eq_true rfl)
  rw [lg_entry_eq]
  generalize (lg_sl ([.ref h0, .int p0, .int p1, .int p2]) ++ List.replicate (4 - (lg_sl ([.ref h0, .int p0, .int p1, .int p2])).length) Slot.unset).toArray = ls at hl ⊢
  have hl : lv_has ls 4 [(0, .ref h0), (1, .int p0), (2, .int p1), (3, .int p2)] := hl
  refine lv_aload_n hx hb dX9_undo_0 rfl (lv_at hl 0 rfl) ?_
  refine lv_iload_n hx hb dX9_undo_1 rfl (lv_at hl 1 rfl) ?_
  refine lv_iload_n hx hb dX9_undo_2 rfl (lv_at hl 2 rfl) ?_
  refine lv_iload_n hx hb dX9_undo_3 rfl (lv_at hl 3 rfl) ?_
  have hPc := hP.sub (ws' := [(h0, .inr (10, [.ref (a 0), .ref (a 1), .ref (a 2), .ref (a 3), .ref (a 4), .ref (a 5), .ref (a 6), .ref (a 7), .ref (a 8), .ref (a 9), .ref (a 10), .ref (a 11), .ref (a 12), .ref (a 13), .ref (a 14), .ref (a 15), .ref (a 16), .ref (a 17), .ref (a 18), .ref (a 19), .int 0, .int 0, .int tk, .int 0, .int 0, .ref (a 25), .ref (a 26), .ref (a 27), .ref (a 28), .ref (a 29), .ref (a 30), .ref (a 31), .ref (a 32), .int 0, .ref (a 34), .ref (a 35), .ref (a 36), .ref (a 37), .int 0, .int (-1), .ref (a 40), .ref (a 41), .ref (a 42), .ref (a 43), .ref (a 44), .int 0]))]) [0] rfl
  have hDc := hD.sub (ws' := [(h0, .inr (10, [.ref (a 0), .ref (a 1), .ref (a 2), .ref (a 3), .ref (a 4), .ref (a 5), .ref (a 6), .ref (a 7), .ref (a 8), .ref (a 9), .ref (a 10), .ref (a 11), .ref (a 12), .ref (a 13), .ref (a 14), .ref (a 15), .ref (a 16), .ref (a 17), .ref (a 18), .ref (a 19), .int 0, .int 0, .int tk, .int 0, .int 0, .ref (a 25), .ref (a 26), .ref (a 27), .ref (a 28), .ref (a 29), .ref (a 30), .ref (a 31), .ref (a 32), .int 0, .ref (a 34), .ref (a 35), .ref (a 36), .ref (a 37), .int 0, .int (-1), .ref (a 40), .ref (a 41), .ref (a 42), .ref (a 43), .ref (a 44), .int 0]))]) [0] (by decide) rfl
  have hKc := hK.sub (tys' := []) [] rfl
  have hFc := va_free (wc := [(h0, .inr (10, [.ref (a 0), .ref (a 1), .ref (a 2), .ref (a 3), .ref (a 4), .ref (a 5), .ref (a 6), .ref (a 7), .ref (a 8), .ref (a 9), .ref (a 10), .ref (a 11), .ref (a 12), .ref (a 13), .ref (a 14), .ref (a 15), .ref (a 16), .ref (a 17), .ref (a 18), .ref (a 19), .int 0, .int 0, .int tk, .int 0, .int 0, .ref (a 25), .ref (a 26), .ref (a 27), .ref (a 28), .ref (a 29), .ref (a 30), .ref (a 31), .ref (a 32), .int 0, .ref (a 34), .ref (a 35), .ref (a 36), .ref (a 37), .int 0, .int (-1), .ref (a 40), .ref (a 41), .ref (a 42), .ref (a 43), .ref (a 44), .int 0]))]) hD hS hA [0] rfl
  refine va_calli (va_runV (As := [.int p0, .int p1, .int p2]) (rest := []) ⟨hx, hb, hml, hown, hts⟩ (c_isPair l dC dI h0 a tk p0 p1 p2 s.heap.size) (cwV 3 hts wc_m_undo_isPair_139 rfl rfl rfl (by decide +kernel) ⟨Nat.le_of_ble_eq_true rfl, Nat.le_of_ble_eq_true rfl⟩) ⟨fun a U g mk q => by obtain ⟨q0, q1, qP, qK, qD, qN⟩ := q; exact ⟨q0, q1, qP, va_K.moved (u := U) (U := U.calling g mk a) (Vm.Alike.refl U.vm) qK, qD, pw_N.same (u := U) (U := U.calling g mk a) rfl qN⟩, va_recv hKc hPc (ci := 10) (q0 := 0) rfl rfl, fun U hU hW => ⟨rfl, by rw [hU], by rw [hU]; exact hPc, va_K.moved hW.alike hKc, hDc.weaken (fun _ _ _ _ => trivial), pw_N.warm hW hN⟩⟩ rfl rfl hl.1 rfl (lv_room (Nat.le_of_ble_eq_true rfl)) dX9_undo_4 ⟨Nat.le_of_ble_eq_true rfl, Nat.le_of_ble_eq_true rfl⟩) hS (fun q _ h => hFc q h) hFc (fun r_1 u t H1 locs ht hvm hw hB hz1 hk1 hS => ?_)
  obtain ⟨hP1, hD1⟩ := hB
  rw [ht] at hP1
  obtain ⟨hP, hD⟩ := va_join (wr := []) (w1 := [(h0, .inr (10, [.ref (a 0), .ref (a 1), .ref (a 2), .ref (a 3), .ref (a 4), .ref (a 5), .ref (a 6), .ref (a 7), .ref (a 8), .ref (a 9), .ref (a 10), .ref (a 11), .ref (a 12), .ref (a 13), .ref (a 14), .ref (a 15), .ref (a 16), .ref (a 17), .ref (a 18), .ref (a 19), .int 0, .int 0, .int tk, .int 0, .int 0, .ref (a 25), .ref (a 26), .ref (a 27), .ref (a 28), .ref (a 29), .ref (a 30), .ref (a 31), .ref (a 32), .int 0, .ref (a 34), .ref (a 35), .ref (a 36), .ref (a 37), .int 0, .int (-1), .ref (a 40), .ref (a 41), .ref (a 42), .ref (a 43), .ref (a 44), .int 0]))]) hP hD [0] [] rfl rfl (by decide) (by decide) hk1 hFc hP1 hD1
  generalize H1 = H at hP hS ⊢
  replace hP : va_P (dC, dI) vwCl [(h0, .inr (10, [.ref (a 0), .ref (a 1), .ref (a 2), .ref (a 3), .ref (a 4), .ref (a 5), .ref (a 6), .ref (a 7), .ref (a 8), .ref (a 9), .ref (a 10), .ref (a 11), .ref (a 12), .ref (a 13), .ref (a 14), .ref (a 15), .ref (a 16), .ref (a 17), .ref (a 18), .ref (a 19), .int 0, .int 0, .int tk, .int 0, .int 0, .ref (a 25), .ref (a 26), .ref (a 27), .ref (a 28), .ref (a 29), .ref (a 30), .ref (a 31), .ref (a 32), .int 0, .ref (a 34), .ref (a 35), .ref (a 36), .ref (a 37), .int 0, .int (-1), .ref (a 40), .ref (a 41), .ref (a 42), .ref (a 43), .ref (a 44), .int 0]))] H := hP
  replace hD : va_D A [(h0, .inr (10, [.ref (a 0), .ref (a 1), .ref (a 2), .ref (a 3), .ref (a 4), .ref (a 5), .ref (a 6), .ref (a 7), .ref (a 8), .ref (a 9), .ref (a 10), .ref (a 11), .ref (a 12), .ref (a 13), .ref (a 14), .ref (a 15), .ref (a 16), .ref (a 17), .ref (a 18), .ref (a 19), .int 0, .int 0, .int tk, .int 0, .int 0, .ref (a 25), .ref (a 26), .ref (a 27), .ref (a 28), .ref (a 29), .ref (a 30), .ref (a 31), .ref (a 32), .int 0, .ref (a 34), .ref (a 35), .ref (a 36), .ref (a 37), .int 0, .int (-1), .ref (a 40), .ref (a 41), .ref (a 42), .ref (a 43), .ref (a 44), .int 0]))] := hD
  try dsimp only at hw
  subst hw
  refine lv_if_ne (tgt := 12) hx hb dX9_undo_7 (by decide) (fun c9 => absurd (by decide) c9) (fun _ => ?_)
  refine lv_iconst (v := (-1)) hx hb dX9_undo_10 (by decide) ?_
  exact W.iret (v := (-1)) hx hb hr (fun t ht hW => ⟨⟨(-1), (), rfl, rfl, trivial⟩, hS.F ht⟩) hS.2.2 dX9_undo_11
def wq_m_order : List Cond := [.code yX9_order cX9_order 5 (some .int), .methodLink RX9 135 yX9_is, .instanceMethod yX9_is, .selects RX9 yX9_is yX9_is, .initialized RX9] ++ (wq_is)
set_option maxRecDepth 20000 in
theorem wi_m_order : ∀ w ∈ wq_m_order, w ∈ lw_tbl := List.forall_mem_append.mpr ⟨(by decide +kernel), wi_is⟩
set_option maxRecDepth 20000 in
theorem wg_m_order : GoodIn wq_m_order wq_m_order := goodIn_sub (fun _ h => h) (by decide +kernel)
set_option maxRecDepth 20000 in
theorem wc_m_order_is_135 : GoodIn wq_m_order (wsV RX9 135 RX9 yX9_is wq_is) := goodIn_app (goodIn_of _ (by decide +kernel)) (fun w h => ⟨List.mem_append_right _ (h), (wg_is w h).2⟩)
set_option maxHeartbeats 4000000 in
set_option maxRecDepth 100000 in
theorem c_m_order (l : Launch) (dC : Nat → ClassId) (dI : Nat → Nat → Nat) (h0 : Nat) (a : Nat → Nat) (tk : Int32) (p0 : Int32) (p1 : Int32) (sz : Nat) : Met l yX9_order wq_m_order ({ frames := 1, cells := 0, slots := 0, locals := 21 }) (va_Pc [.ref h0, .int p0, .int p1] (fun U => U.heap.size = sz ∧ va_P (dC, dI) vwCl [(h0, .inr (10, [.ref (a 0), .ref (a 1), .ref (a 2), .ref (a 3), .ref (a 4), .ref (a 5), .ref (a 6), .ref (a 7), .ref (a 8), .ref (a 9), .ref (a 10), .ref (a 11), .ref (a 12), .ref (a 13), .ref (a 14), .ref (a 15), .ref (a 16), .ref (a 17), .ref (a 18), .ref (a 19), .int 0, .int 0, .int tk, .int 0, .int 0, .ref (a 25), .ref (a 26), .ref (a 27), .ref (a 28), .ref (a 29), .ref (a 30), .ref (a 31), .ref (a 32), .int 0, .ref (a 34), .ref (a 35), .ref (a 36), .ref (a 37), .int 0, .int (-1), .ref (a 40), .ref (a 41), .ref (a 42), .ref (a 43), .ref (a 44), .int 0]))] U.heap ∧ va_K (dC, dI) vwCl [] U ∧ va_D (fun _ => True) [(h0, .inr (10, [.ref (a 0), .ref (a 1), .ref (a 2), .ref (a 3), .ref (a 4), .ref (a 5), .ref (a 6), .ref (a 7), .ref (a 8), .ref (a 9), .ref (a 10), .ref (a 11), .ref (a 12), .ref (a 13), .ref (a 14), .ref (a 15), .ref (a 16), .ref (a 17), .ref (a 18), .ref (a 19), .int 0, .int 0, .int tk, .int 0, .int 0, .ref (a 25), .ref (a 26), .ref (a 27), .ref (a 28), .ref (a 29), .ref (a 30), .ref (a 31), .ref (a 32), .int 0, .ref (a 34), .ref (a 35), .ref (a 36), .ref (a 37), .int 0, .int (-1), .ref (a 40), .ref (a 41), .ref (a 42), .ref (a 43), .ref (a 44), .int 0]))] ∧ pw_N U)) (va_Qi (fun (r : Int32) (_ : Unit) => r = (-1)) (fun (_ : Unit) (t : State) => True) (va_A [(h0, .inr (10, [.ref (a 0), .ref (a 1), .ref (a 2), .ref (a 3), .ref (a 4), .ref (a 5), .ref (a 6), .ref (a 7), .ref (a 8), .ref (a 9), .ref (a 10), .ref (a 11), .ref (a 12), .ref (a 13), .ref (a 14), .ref (a 15), .ref (a 16), .ref (a 17), .ref (a 18), .ref (a 19), .int 0, .int 0, .int tk, .int 0, .int 0, .ref (a 25), .ref (a 26), .ref (a 27), .ref (a 28), .ref (a 29), .ref (a 30), .ref (a 31), .ref (a 32), .int 0, .ref (a 34), .ref (a 35), .ref (a 36), .ref (a 37), .int 0, .int (-1), .ref (a 40), .ref (a 41), .ref (a 42), .ref (a 43), .ref (a 44), .int 0]))] sz)) 0 0 (va_A [(h0, .inr (10, [.ref (a 0), .ref (a 1), .ref (a 2), .ref (a 3), .ref (a 4), .ref (a 5), .ref (a 6), .ref (a 7), .ref (a 8), .ref (a 9), .ref (a 10), .ref (a 11), .ref (a 12), .ref (a 13), .ref (a 14), .ref (a 15), .ref (a 16), .ref (a 17), .ref (a 18), .ref (a 19), .int 0, .int 0, .int tk, .int 0, .int 0, .ref (a 25), .ref (a 26), .ref (a 27), .ref (a 28), .ref (a 29), .ref (a 30), .ref (a 31), .ref (a 32), .int 0, .ref (a 34), .ref (a 35), .ref (a 36), .ref (a 37), .int 0, .int (-1), .ref (a 40), .ref (a 41), .ref (a 42), .ref (a 43), .ref (a 44), .int 0]))] sz) := by
  refine Met.ofW (cc := cX9_order) (maxL := 5) (ret := (some .int)) (by decide) rfl ?_
  intro p e s m args below meth c s₁ B hml hv
  obtain ⟨rfl, hsz, hP, hK, hD0, hN⟩ := hv
  have hx := B.exec
  have hb := B.bytes
  have hr := B.returns
  have hts := atoms_spec (ws := wq_m_order) B.pre
  have hown : s.vm.findClass RX9 = some m.cls := findClass_of_methodNamed B.named
  have hlocks := B.notSynchronized
  subst hsz
  have hD := hD0.self (sz := s.heap.size)
  generalize hAe : va_A [(h0, .inr (10, [.ref (a 0), .ref (a 1), .ref (a 2), .ref (a 3), .ref (a 4), .ref (a 5), .ref (a 6), .ref (a 7), .ref (a 8), .ref (a 9), .ref (a 10), .ref (a 11), .ref (a 12), .ref (a 13), .ref (a 14), .ref (a 15), .ref (a 16), .ref (a 17), .ref (a 18), .ref (a 19), .int 0, .int 0, .int tk, .int 0, .int 0, .ref (a 25), .ref (a 26), .ref (a 27), .ref (a 28), .ref (a 29), .ref (a 30), .ref (a 31), .ref (a 32), .int 0, .ref (a 34), .ref (a 35), .ref (a 36), .ref (a 37), .int 0, .int (-1), .ref (a 40), .ref (a 41), .ref (a 42), .ref (a 43), .ref (a 44), .int 0]))] s.heap.size = A at hD ⊢
  have hA : ∀ q : Nat, s.heap.size ≤ q → A q := fun q h => by rw [← hAe]; exact Or.inr h
  have hS : va_S A s.heap s.heap [] := va_S.rf
  have hP : va_P (dC, dI) vwCl [(h0, .inr (10, [.ref (a 0), .ref (a 1), .ref (a 2), .ref (a 3), .ref (a 4), .ref (a 5), .ref (a 6), .ref (a 7), .ref (a 8), .ref (a 9), .ref (a 10), .ref (a 11), .ref (a 12), .ref (a 13), .ref (a 14), .ref (a 15), .ref (a 16), .ref (a 17), .ref (a 18), .ref (a 19), .int 0, .int 0, .int tk, .int 0, .int 0, .ref (a 25), .ref (a 26), .ref (a 27), .ref (a 28), .ref (a 29), .ref (a 30), .ref (a 31), .ref (a 32), .int 0, .ref (a 34), .ref (a 35), .ref (a 36), .ref (a 37), .int 0, .int (-1), .ref (a 40), .ref (a 41), .ref (a 42), .ref (a 43), .ref (a 44), .int 0]))] s.heap := hP
  have hl := lv_entry ([.ref h0, .int p0, .int p1]) (n := 5) (Nat.le_of_ble_eq_true rfl)
  rw [lg_entry_eq]
  generalize (lg_sl ([.ref h0, .int p0, .int p1]) ++ List.replicate (5 - (lg_sl ([.ref h0, .int p0, .int p1])).length) Slot.unset).toArray = ls at hl ⊢
  have hl : lv_has ls 5 [(0, .ref h0), (1, .int p0), (2, .int p1)] := hl
  refine lv_iload_n hx hb dX9_order_0 rfl (lv_at hl 1 rfl) ?_
  refine lv_if_lt (tgt := 17) hx hb dX9_order_1 (by decide) (fun c_1 => ?_) (fun c_1 => ?_)
  · refine lv_iconst (v := (-1)) hx hb dX9_order_17 (by decide) ?_
    exact W.iret (v := (-1)) hx hb hr (fun t ht hW => ⟨⟨(-1), (), rfl, rfl, trivial⟩, hS.F ht⟩) hS.2.2 dX9_order_18
  · refine lv_iload_n hx hb dX9_order_4 rfl (lv_at hl 1 rfl) ?_
    refine lv_iconst (v := 2) hx hb dX9_order_5 (by decide) ?_
    refine lv_icmp_gt (tgt := 17) hx hb dX9_order_6 (by decide) (fun c_2 => ?_) (fun c_2 => ?_)
    · refine lv_iconst (v := (-1)) hx hb dX9_order_17 (by decide) ?_
      exact W.iret (v := (-1)) hx hb hr (fun t ht hW => ⟨⟨(-1), (), rfl, rfl, trivial⟩, hS.F ht⟩) hS.2.2 dX9_order_18
    · refine lv_aload_n hx hb dX9_order_9 rfl (lv_at hl 0 rfl) ?_
      refine lv_iload_n hx hb dX9_order_10 rfl (lv_at hl 2 rfl) ?_
      have hPc := hP.sub (ws' := [(h0, .inr (10, [.ref (a 0), .ref (a 1), .ref (a 2), .ref (a 3), .ref (a 4), .ref (a 5), .ref (a 6), .ref (a 7), .ref (a 8), .ref (a 9), .ref (a 10), .ref (a 11), .ref (a 12), .ref (a 13), .ref (a 14), .ref (a 15), .ref (a 16), .ref (a 17), .ref (a 18), .ref (a 19), .int 0, .int 0, .int tk, .int 0, .int 0, .ref (a 25), .ref (a 26), .ref (a 27), .ref (a 28), .ref (a 29), .ref (a 30), .ref (a 31), .ref (a 32), .int 0, .ref (a 34), .ref (a 35), .ref (a 36), .ref (a 37), .int 0, .int (-1), .ref (a 40), .ref (a 41), .ref (a 42), .ref (a 43), .ref (a 44), .int 0]))]) [0] rfl
      have hDc := hD.sub (ws' := [(h0, .inr (10, [.ref (a 0), .ref (a 1), .ref (a 2), .ref (a 3), .ref (a 4), .ref (a 5), .ref (a 6), .ref (a 7), .ref (a 8), .ref (a 9), .ref (a 10), .ref (a 11), .ref (a 12), .ref (a 13), .ref (a 14), .ref (a 15), .ref (a 16), .ref (a 17), .ref (a 18), .ref (a 19), .int 0, .int 0, .int tk, .int 0, .int 0, .ref (a 25), .ref (a 26), .ref (a 27), .ref (a 28), .ref (a 29), .ref (a 30), .ref (a 31), .ref (a 32), .int 0, .ref (a 34), .ref (a 35), .ref (a 36), .ref (a 37), .int 0, .int (-1), .ref (a 40), .ref (a 41), .ref (a 42), .ref (a 43), .ref (a 44), .int 0]))]) [0] (by decide) rfl
      have hKc := hK.sub (tys' := []) [] rfl
      have hFc := va_free (wc := [(h0, .inr (10, [.ref (a 0), .ref (a 1), .ref (a 2), .ref (a 3), .ref (a 4), .ref (a 5), .ref (a 6), .ref (a 7), .ref (a 8), .ref (a 9), .ref (a 10), .ref (a 11), .ref (a 12), .ref (a 13), .ref (a 14), .ref (a 15), .ref (a 16), .ref (a 17), .ref (a 18), .ref (a 19), .int 0, .int 0, .int tk, .int 0, .int 0, .ref (a 25), .ref (a 26), .ref (a 27), .ref (a 28), .ref (a 29), .ref (a 30), .ref (a 31), .ref (a 32), .int 0, .ref (a 34), .ref (a 35), .ref (a 36), .ref (a 37), .int 0, .int (-1), .ref (a 40), .ref (a 41), .ref (a 42), .ref (a 43), .ref (a 44), .int 0]))]) hD hS hA [0] rfl
      refine va_calli (va_runV (As := [.int p1]) (rest := []) ⟨hx, hb, hml, hown, hts⟩ (c_is l dC dI h0 a tk p1 s.heap.size) (cwV 1 hts wc_m_order_is_135 rfl rfl rfl (by decide +kernel) ⟨Nat.le_of_ble_eq_true rfl, Nat.le_of_ble_eq_true rfl⟩) ⟨fun a U g mk q => by obtain ⟨q0, q1, qP, qK, qD, qN⟩ := q; exact ⟨q0, q1, qP, va_K.moved (u := U) (U := U.calling g mk a) (Vm.Alike.refl U.vm) qK, qD, pw_N.same (u := U) (U := U.calling g mk a) rfl qN⟩, va_recv hKc hPc (ci := 10) (q0 := 0) rfl rfl, fun U hU hW => ⟨rfl, by rw [hU], by rw [hU]; exact hPc, va_K.moved hW.alike hKc, hDc.weaken (fun _ _ _ _ => trivial), pw_N.warm hW hN⟩⟩ rfl rfl hl.1 rfl (lv_room (Nat.le_of_ble_eq_true rfl)) dX9_order_11 ⟨Nat.le_of_ble_eq_true rfl, Nat.le_of_ble_eq_true rfl⟩) hS (fun q _ h => hFc q h) hFc (fun r_3 u t H1 locs ht hvm hw hB hz1 hk1 hS => ?_)
      obtain ⟨hP1, hD1⟩ := hB
      rw [ht] at hP1
      obtain ⟨hP, hD⟩ := va_join (wr := []) (w1 := [(h0, .inr (10, [.ref (a 0), .ref (a 1), .ref (a 2), .ref (a 3), .ref (a 4), .ref (a 5), .ref (a 6), .ref (a 7), .ref (a 8), .ref (a 9), .ref (a 10), .ref (a 11), .ref (a 12), .ref (a 13), .ref (a 14), .ref (a 15), .ref (a 16), .ref (a 17), .ref (a 18), .ref (a 19), .int 0, .int 0, .int tk, .int 0, .int 0, .ref (a 25), .ref (a 26), .ref (a 27), .ref (a 28), .ref (a 29), .ref (a 30), .ref (a 31), .ref (a 32), .int 0, .ref (a 34), .ref (a 35), .ref (a 36), .ref (a 37), .int 0, .int (-1), .ref (a 40), .ref (a 41), .ref (a 42), .ref (a 43), .ref (a 44), .int 0]))]) hP hD [0] [] rfl rfl (by decide) (by decide) hk1 hFc hP1 hD1
      generalize H1 = H at hP hS ⊢
      replace hP : va_P (dC, dI) vwCl [(h0, .inr (10, [.ref (a 0), .ref (a 1), .ref (a 2), .ref (a 3), .ref (a 4), .ref (a 5), .ref (a 6), .ref (a 7), .ref (a 8), .ref (a 9), .ref (a 10), .ref (a 11), .ref (a 12), .ref (a 13), .ref (a 14), .ref (a 15), .ref (a 16), .ref (a 17), .ref (a 18), .ref (a 19), .int 0, .int 0, .int tk, .int 0, .int 0, .ref (a 25), .ref (a 26), .ref (a 27), .ref (a 28), .ref (a 29), .ref (a 30), .ref (a 31), .ref (a 32), .int 0, .ref (a 34), .ref (a 35), .ref (a 36), .ref (a 37), .int 0, .int (-1), .ref (a 40), .ref (a 41), .ref (a 42), .ref (a 43), .ref (a 44), .int 0]))] H := hP
      replace hD : va_D A [(h0, .inr (10, [.ref (a 0), .ref (a 1), .ref (a 2), .ref (a 3), .ref (a 4), .ref (a 5), .ref (a 6), .ref (a 7), .ref (a 8), .ref (a 9), .ref (a 10), .ref (a 11), .ref (a 12), .ref (a 13), .ref (a 14), .ref (a 15), .ref (a 16), .ref (a 17), .ref (a 18), .ref (a 19), .int 0, .int 0, .int tk, .int 0, .int 0, .ref (a 25), .ref (a 26), .ref (a 27), .ref (a 28), .ref (a 29), .ref (a 30), .ref (a 31), .ref (a 32), .int 0, .ref (a 34), .ref (a 35), .ref (a 36), .ref (a 37), .int 0, .int (-1), .ref (a 40), .ref (a 41), .ref (a 42), .ref (a 43), .ref (a 44), .int 0]))] := hD
      try dsimp only at hw
      subst hw
      refine lv_if_ne (tgt := 19) hx hb dX9_order_14 (by decide) (fun c9 => absurd (by decide) c9) (fun _ => ?_)
      refine lv_iconst (v := (-1)) hx hb dX9_order_17 (by decide) ?_
      exact W.iret (v := (-1)) hx hb hr (fun t ht hW => ⟨⟨(-1), (), rfl, rfl, trivial⟩, hS.F ht⟩) hS.2.2 dX9_order_18
def wq_m_letter : List Cond := [.code yX9_letter cX9_letter 4 (some .int), .methodLink RX9 135 yX9_is, .instanceMethod yX9_is, .selects RX9 yX9_is yX9_is, .initialized RX9] ++ (wq_is)
set_option maxRecDepth 20000 in
theorem wi_m_letter : ∀ w ∈ wq_m_letter, w ∈ lw_tbl := List.forall_mem_append.mpr ⟨(by decide +kernel), wi_is⟩
set_option maxRecDepth 20000 in
theorem wg_m_letter : GoodIn wq_m_letter wq_m_letter := goodIn_sub (fun _ h => h) (by decide +kernel)
set_option maxRecDepth 20000 in
theorem wc_m_letter_is_135 : GoodIn wq_m_letter (wsV RX9 135 RX9 yX9_is wq_is) := goodIn_app (goodIn_of _ (by decide +kernel)) (fun w h => ⟨List.mem_append_right _ (h), (wg_is w h).2⟩)
set_option maxHeartbeats 4000000 in
set_option maxRecDepth 100000 in
theorem c_m_letter (l : Launch) (dC : Nat → ClassId) (dI : Nat → Nat → Nat) (h0 : Nat) (a : Nat → Nat) (tk : Int32) (p0 : Int32) (sz : Nat) : Met l yX9_letter wq_m_letter ({ frames := 1, cells := 0, slots := 0, locals := 21 }) (va_Pc [.ref h0, .int p0] (fun U => U.heap.size = sz ∧ va_P (dC, dI) vwCl [(h0, .inr (10, [.ref (a 0), .ref (a 1), .ref (a 2), .ref (a 3), .ref (a 4), .ref (a 5), .ref (a 6), .ref (a 7), .ref (a 8), .ref (a 9), .ref (a 10), .ref (a 11), .ref (a 12), .ref (a 13), .ref (a 14), .ref (a 15), .ref (a 16), .ref (a 17), .ref (a 18), .ref (a 19), .int 0, .int 0, .int tk, .int 0, .int 0, .ref (a 25), .ref (a 26), .ref (a 27), .ref (a 28), .ref (a 29), .ref (a 30), .ref (a 31), .ref (a 32), .int 0, .ref (a 34), .ref (a 35), .ref (a 36), .ref (a 37), .int 0, .int (-1), .ref (a 40), .ref (a 41), .ref (a 42), .ref (a 43), .ref (a 44), .int 0]))] U.heap ∧ va_K (dC, dI) vwCl [] U ∧ va_D (fun _ => True) [(h0, .inr (10, [.ref (a 0), .ref (a 1), .ref (a 2), .ref (a 3), .ref (a 4), .ref (a 5), .ref (a 6), .ref (a 7), .ref (a 8), .ref (a 9), .ref (a 10), .ref (a 11), .ref (a 12), .ref (a 13), .ref (a 14), .ref (a 15), .ref (a 16), .ref (a 17), .ref (a 18), .ref (a 19), .int 0, .int 0, .int tk, .int 0, .int 0, .ref (a 25), .ref (a 26), .ref (a 27), .ref (a 28), .ref (a 29), .ref (a 30), .ref (a 31), .ref (a 32), .int 0, .ref (a 34), .ref (a 35), .ref (a 36), .ref (a 37), .int 0, .int (-1), .ref (a 40), .ref (a 41), .ref (a 42), .ref (a 43), .ref (a 44), .int 0]))] ∧ pw_N U)) (va_Qi (fun (r : Int32) (_ : Unit) => r = (-1)) (fun (_ : Unit) (t : State) => True) (va_A [(h0, .inr (10, [.ref (a 0), .ref (a 1), .ref (a 2), .ref (a 3), .ref (a 4), .ref (a 5), .ref (a 6), .ref (a 7), .ref (a 8), .ref (a 9), .ref (a 10), .ref (a 11), .ref (a 12), .ref (a 13), .ref (a 14), .ref (a 15), .ref (a 16), .ref (a 17), .ref (a 18), .ref (a 19), .int 0, .int 0, .int tk, .int 0, .int 0, .ref (a 25), .ref (a 26), .ref (a 27), .ref (a 28), .ref (a 29), .ref (a 30), .ref (a 31), .ref (a 32), .int 0, .ref (a 34), .ref (a 35), .ref (a 36), .ref (a 37), .int 0, .int (-1), .ref (a 40), .ref (a 41), .ref (a 42), .ref (a 43), .ref (a 44), .int 0]))] sz)) 0 0 (va_A [(h0, .inr (10, [.ref (a 0), .ref (a 1), .ref (a 2), .ref (a 3), .ref (a 4), .ref (a 5), .ref (a 6), .ref (a 7), .ref (a 8), .ref (a 9), .ref (a 10), .ref (a 11), .ref (a 12), .ref (a 13), .ref (a 14), .ref (a 15), .ref (a 16), .ref (a 17), .ref (a 18), .ref (a 19), .int 0, .int 0, .int tk, .int 0, .int 0, .ref (a 25), .ref (a 26), .ref (a 27), .ref (a 28), .ref (a 29), .ref (a 30), .ref (a 31), .ref (a 32), .int 0, .ref (a 34), .ref (a 35), .ref (a 36), .ref (a 37), .int 0, .int (-1), .ref (a 40), .ref (a 41), .ref (a 42), .ref (a 43), .ref (a 44), .int 0]))] sz) := by
  refine Met.ofW (cc := cX9_letter) (maxL := 4) (ret := (some .int)) (by decide) rfl ?_
  intro p e s m args below meth c s₁ B hml hv
  obtain ⟨rfl, hsz, hP, hK, hD0, hN⟩ := hv
  have hx := B.exec
  have hb := B.bytes
  have hr := B.returns
  have hts := atoms_spec (ws := wq_m_letter) B.pre
  have hown : s.vm.findClass RX9 = some m.cls := findClass_of_methodNamed B.named
  have hlocks := B.notSynchronized
  subst hsz
  have hD := hD0.self (sz := s.heap.size)
  generalize hAe : va_A [(h0, .inr (10, [.ref (a 0), .ref (a 1), .ref (a 2), .ref (a 3), .ref (a 4), .ref (a 5), .ref (a 6), .ref (a 7), .ref (a 8), .ref (a 9), .ref (a 10), .ref (a 11), .ref (a 12), .ref (a 13), .ref (a 14), .ref (a 15), .ref (a 16), .ref (a 17), .ref (a 18), .ref (a 19), .int 0, .int 0, .int tk, .int 0, .int 0, .ref (a 25), .ref (a 26), .ref (a 27), .ref (a 28), .ref (a 29), .ref (a 30), .ref (a 31), .ref (a 32), .int 0, .ref (a 34), .ref (a 35), .ref (a 36), .ref (a 37), .int 0, .int (-1), .ref (a 40), .ref (a 41), .ref (a 42), .ref (a 43), .ref (a 44), .int 0]))] s.heap.size = A at hD ⊢
  have hA : ∀ q : Nat, s.heap.size ≤ q → A q := fun q h => by rw [← hAe]; exact Or.inr h
  have hS : va_S A s.heap s.heap [] := va_S.rf
  have hP : va_P (dC, dI) vwCl [(h0, .inr (10, [.ref (a 0), .ref (a 1), .ref (a 2), .ref (a 3), .ref (a 4), .ref (a 5), .ref (a 6), .ref (a 7), .ref (a 8), .ref (a 9), .ref (a 10), .ref (a 11), .ref (a 12), .ref (a 13), .ref (a 14), .ref (a 15), .ref (a 16), .ref (a 17), .ref (a 18), .ref (a 19), .int 0, .int 0, .int tk, .int 0, .int 0, .ref (a 25), .ref (a 26), .ref (a 27), .ref (a 28), .ref (a 29), .ref (a 30), .ref (a 31), .ref (a 32), .int 0, .ref (a 34), .ref (a 35), .ref (a 36), .ref (a 37), .int 0, .int (-1), .ref (a 40), .ref (a 41), .ref (a 42), .ref (a 43), .ref (a 44), .int 0]))] s.heap := hP
  have hl := lv_entry ([.ref h0, .int p0]) (n := 4) (Nat.le_of_ble_eq_true rfl)
  rw [lg_entry_eq]
  generalize (lg_sl ([.ref h0, .int p0]) ++ List.replicate (4 - (lg_sl ([.ref h0, .int p0])).length) Slot.unset).toArray = ls at hl ⊢
  have hl : lv_has ls 4 [(0, .ref h0), (1, .int p0)] := hl
  refine lv_aload_n hx hb dX9_letter_0 rfl (lv_at hl 0 rfl) ?_
  refine lv_iload_n hx hb dX9_letter_1 rfl (lv_at hl 1 rfl) ?_
  have hPc := hP.sub (ws' := [(h0, .inr (10, [.ref (a 0), .ref (a 1), .ref (a 2), .ref (a 3), .ref (a 4), .ref (a 5), .ref (a 6), .ref (a 7), .ref (a 8), .ref (a 9), .ref (a 10), .ref (a 11), .ref (a 12), .ref (a 13), .ref (a 14), .ref (a 15), .ref (a 16), .ref (a 17), .ref (a 18), .ref (a 19), .int 0, .int 0, .int tk, .int 0, .int 0, .ref (a 25), .ref (a 26), .ref (a 27), .ref (a 28), .ref (a 29), .ref (a 30), .ref (a 31), .ref (a 32), .int 0, .ref (a 34), .ref (a 35), .ref (a 36), .ref (a 37), .int 0, .int (-1), .ref (a 40), .ref (a 41), .ref (a 42), .ref (a 43), .ref (a 44), .int 0]))]) [0] rfl
  have hDc := hD.sub (ws' := [(h0, .inr (10, [.ref (a 0), .ref (a 1), .ref (a 2), .ref (a 3), .ref (a 4), .ref (a 5), .ref (a 6), .ref (a 7), .ref (a 8), .ref (a 9), .ref (a 10), .ref (a 11), .ref (a 12), .ref (a 13), .ref (a 14), .ref (a 15), .ref (a 16), .ref (a 17), .ref (a 18), .ref (a 19), .int 0, .int 0, .int tk, .int 0, .int 0, .ref (a 25), .ref (a 26), .ref (a 27), .ref (a 28), .ref (a 29), .ref (a 30), .ref (a 31), .ref (a 32), .int 0, .ref (a 34), .ref (a 35), .ref (a 36), .ref (a 37), .int 0, .int (-1), .ref (a 40), .ref (a 41), .ref (a 42), .ref (a 43), .ref (a 44), .int 0]))]) [0] (by decide) rfl
  have hKc := hK.sub (tys' := []) [] rfl
  have hFc := va_free (wc := [(h0, .inr (10, [.ref (a 0), .ref (a 1), .ref (a 2), .ref (a 3), .ref (a 4), .ref (a 5), .ref (a 6), .ref (a 7), .ref (a 8), .ref (a 9), .ref (a 10), .ref (a 11), .ref (a 12), .ref (a 13), .ref (a 14), .ref (a 15), .ref (a 16), .ref (a 17), .ref (a 18), .ref (a 19), .int 0, .int 0, .int tk, .int 0, .int 0, .ref (a 25), .ref (a 26), .ref (a 27), .ref (a 28), .ref (a 29), .ref (a 30), .ref (a 31), .ref (a 32), .int 0, .ref (a 34), .ref (a 35), .ref (a 36), .ref (a 37), .int 0, .int (-1), .ref (a 40), .ref (a 41), .ref (a 42), .ref (a 43), .ref (a 44), .int 0]))]) hD hS hA [0] rfl
  refine va_calli (va_runV (As := [.int p0]) (rest := []) ⟨hx, hb, hml, hown, hts⟩ (c_is l dC dI h0 a tk p0 s.heap.size) (cwV 1 hts wc_m_letter_is_135 rfl rfl rfl (by decide +kernel) ⟨Nat.le_of_ble_eq_true rfl, Nat.le_of_ble_eq_true rfl⟩) ⟨fun a U g mk q => by obtain ⟨q0, q1, qP, qK, qD, qN⟩ := q; exact ⟨q0, q1, qP, va_K.moved (u := U) (U := U.calling g mk a) (Vm.Alike.refl U.vm) qK, qD, pw_N.same (u := U) (U := U.calling g mk a) rfl qN⟩, va_recv hKc hPc (ci := 10) (q0 := 0) rfl rfl, fun U hU hW => ⟨rfl, by rw [hU], by rw [hU]; exact hPc, va_K.moved hW.alike hKc, hDc.weaken (fun _ _ _ _ => trivial), pw_N.warm hW hN⟩⟩ rfl rfl hl.1 rfl (lv_room (Nat.le_of_ble_eq_true rfl)) dX9_letter_2 ⟨Nat.le_of_ble_eq_true rfl, Nat.le_of_ble_eq_true rfl⟩) hS (fun q _ h => hFc q h) hFc (fun r_1 u t H1 locs ht hvm hw hB hz1 hk1 hS => ?_)
  obtain ⟨hP1, hD1⟩ := hB
  rw [ht] at hP1
  obtain ⟨hP, hD⟩ := va_join (wr := []) (w1 := [(h0, .inr (10, [.ref (a 0), .ref (a 1), .ref (a 2), .ref (a 3), .ref (a 4), .ref (a 5), .ref (a 6), .ref (a 7), .ref (a 8), .ref (a 9), .ref (a 10), .ref (a 11), .ref (a 12), .ref (a 13), .ref (a 14), .ref (a 15), .ref (a 16), .ref (a 17), .ref (a 18), .ref (a 19), .int 0, .int 0, .int tk, .int 0, .int 0, .ref (a 25), .ref (a 26), .ref (a 27), .ref (a 28), .ref (a 29), .ref (a 30), .ref (a 31), .ref (a 32), .int 0, .ref (a 34), .ref (a 35), .ref (a 36), .ref (a 37), .int 0, .int (-1), .ref (a 40), .ref (a 41), .ref (a 42), .ref (a 43), .ref (a 44), .int 0]))]) hP hD [0] [] rfl rfl (by decide) (by decide) hk1 hFc hP1 hD1
  generalize H1 = H at hP hS ⊢
  replace hP : va_P (dC, dI) vwCl [(h0, .inr (10, [.ref (a 0), .ref (a 1), .ref (a 2), .ref (a 3), .ref (a 4), .ref (a 5), .ref (a 6), .ref (a 7), .ref (a 8), .ref (a 9), .ref (a 10), .ref (a 11), .ref (a 12), .ref (a 13), .ref (a 14), .ref (a 15), .ref (a 16), .ref (a 17), .ref (a 18), .ref (a 19), .int 0, .int 0, .int tk, .int 0, .int 0, .ref (a 25), .ref (a 26), .ref (a 27), .ref (a 28), .ref (a 29), .ref (a 30), .ref (a 31), .ref (a 32), .int 0, .ref (a 34), .ref (a 35), .ref (a 36), .ref (a 37), .int 0, .int (-1), .ref (a 40), .ref (a 41), .ref (a 42), .ref (a 43), .ref (a 44), .int 0]))] H := hP
  replace hD : va_D A [(h0, .inr (10, [.ref (a 0), .ref (a 1), .ref (a 2), .ref (a 3), .ref (a 4), .ref (a 5), .ref (a 6), .ref (a 7), .ref (a 8), .ref (a 9), .ref (a 10), .ref (a 11), .ref (a 12), .ref (a 13), .ref (a 14), .ref (a 15), .ref (a 16), .ref (a 17), .ref (a 18), .ref (a 19), .int 0, .int 0, .int tk, .int 0, .int 0, .ref (a 25), .ref (a 26), .ref (a 27), .ref (a 28), .ref (a 29), .ref (a 30), .ref (a 31), .ref (a 32), .int 0, .ref (a 34), .ref (a 35), .ref (a 36), .ref (a 37), .int 0, .int (-1), .ref (a 40), .ref (a 41), .ref (a 42), .ref (a 43), .ref (a 44), .int 0]))] := hD
  try dsimp only at hw
  subst hw
  refine lv_if_ne (tgt := 10) hx hb dX9_letter_5 (by decide) (fun c9 => absurd (by decide) c9) (fun _ => ?_)
  refine lv_iconst (v := (-1)) hx hb dX9_letter_8 (by decide) ?_
  exact W.iret (v := (-1)) hx hb hr (fun t ht hW => ⟨⟨(-1), (), rfl, rfl, trivial⟩, hS.F ht⟩) hS.2.2 dX9_letter_9
def wq_m_about : List Cond := [.code yX9_about cX9_about 3 (some .int), .methodLink RX9 135 yX9_is, .instanceMethod yX9_is, .selects RX9 yX9_is yX9_is, .initialized RX9] ++ (wq_is)
set_option maxRecDepth 20000 in
theorem wi_m_about : ∀ w ∈ wq_m_about, w ∈ lw_tbl := List.forall_mem_append.mpr ⟨(by decide +kernel), wi_is⟩
set_option maxRecDepth 20000 in
theorem wg_m_about : GoodIn wq_m_about wq_m_about := goodIn_sub (fun _ h => h) (by decide +kernel)
set_option maxRecDepth 20000 in
theorem wc_m_about_is_135 : GoodIn wq_m_about (wsV RX9 135 RX9 yX9_is wq_is) := goodIn_app (goodIn_of _ (by decide +kernel)) (fun w h => ⟨List.mem_append_right _ (h), (wg_is w h).2⟩)
set_option maxHeartbeats 4000000 in
set_option maxRecDepth 100000 in
theorem c_m_about (l : Launch) (dC : Nat → ClassId) (dI : Nat → Nat → Nat) (h0 : Nat) (a : Nat → Nat) (tk : Int32) (p0 : Int32) (p1 : Int32) (sz : Nat) : Met l yX9_about wq_m_about ({ frames := 1, cells := 0, slots := 0, locals := 21 }) (va_Pc [.ref h0, .int p0, .int p1] (fun U => U.heap.size = sz ∧ va_P (dC, dI) vwCl [(h0, .inr (10, [.ref (a 0), .ref (a 1), .ref (a 2), .ref (a 3), .ref (a 4), .ref (a 5), .ref (a 6), .ref (a 7), .ref (a 8), .ref (a 9), .ref (a 10), .ref (a 11), .ref (a 12), .ref (a 13), .ref (a 14), .ref (a 15), .ref (a 16), .ref (a 17), .ref (a 18), .ref (a 19), .int 0, .int 0, .int tk, .int 0, .int 0, .ref (a 25), .ref (a 26), .ref (a 27), .ref (a 28), .ref (a 29), .ref (a 30), .ref (a 31), .ref (a 32), .int 0, .ref (a 34), .ref (a 35), .ref (a 36), .ref (a 37), .int 0, .int (-1), .ref (a 40), .ref (a 41), .ref (a 42), .ref (a 43), .ref (a 44), .int 0]))] U.heap ∧ va_K (dC, dI) vwCl [] U ∧ va_D (fun _ => True) [(h0, .inr (10, [.ref (a 0), .ref (a 1), .ref (a 2), .ref (a 3), .ref (a 4), .ref (a 5), .ref (a 6), .ref (a 7), .ref (a 8), .ref (a 9), .ref (a 10), .ref (a 11), .ref (a 12), .ref (a 13), .ref (a 14), .ref (a 15), .ref (a 16), .ref (a 17), .ref (a 18), .ref (a 19), .int 0, .int 0, .int tk, .int 0, .int 0, .ref (a 25), .ref (a 26), .ref (a 27), .ref (a 28), .ref (a 29), .ref (a 30), .ref (a 31), .ref (a 32), .int 0, .ref (a 34), .ref (a 35), .ref (a 36), .ref (a 37), .int 0, .int (-1), .ref (a 40), .ref (a 41), .ref (a 42), .ref (a 43), .ref (a 44), .int 0]))] ∧ pw_N U)) (va_Qi (fun (r : Int32) (_ : Unit) => r = (-1)) (fun (_ : Unit) (t : State) => True) (va_A [(h0, .inr (10, [.ref (a 0), .ref (a 1), .ref (a 2), .ref (a 3), .ref (a 4), .ref (a 5), .ref (a 6), .ref (a 7), .ref (a 8), .ref (a 9), .ref (a 10), .ref (a 11), .ref (a 12), .ref (a 13), .ref (a 14), .ref (a 15), .ref (a 16), .ref (a 17), .ref (a 18), .ref (a 19), .int 0, .int 0, .int tk, .int 0, .int 0, .ref (a 25), .ref (a 26), .ref (a 27), .ref (a 28), .ref (a 29), .ref (a 30), .ref (a 31), .ref (a 32), .int 0, .ref (a 34), .ref (a 35), .ref (a 36), .ref (a 37), .int 0, .int (-1), .ref (a 40), .ref (a 41), .ref (a 42), .ref (a 43), .ref (a 44), .int 0]))] sz)) 0 0 (va_A [(h0, .inr (10, [.ref (a 0), .ref (a 1), .ref (a 2), .ref (a 3), .ref (a 4), .ref (a 5), .ref (a 6), .ref (a 7), .ref (a 8), .ref (a 9), .ref (a 10), .ref (a 11), .ref (a 12), .ref (a 13), .ref (a 14), .ref (a 15), .ref (a 16), .ref (a 17), .ref (a 18), .ref (a 19), .int 0, .int 0, .int tk, .int 0, .int 0, .ref (a 25), .ref (a 26), .ref (a 27), .ref (a 28), .ref (a 29), .ref (a 30), .ref (a 31), .ref (a 32), .int 0, .ref (a 34), .ref (a 35), .ref (a 36), .ref (a 37), .int 0, .int (-1), .ref (a 40), .ref (a 41), .ref (a 42), .ref (a 43), .ref (a 44), .int 0]))] sz) := by
  refine Met.ofW (cc := cX9_about) (maxL := 3) (ret := (some .int)) (by decide) rfl ?_
  intro p e s m args below meth c s₁ B hml hv
  obtain ⟨rfl, hsz, hP, hK, hD0, hN⟩ := hv
  have hx := B.exec
  have hb := B.bytes
  have hr := B.returns
  have hts := atoms_spec (ws := wq_m_about) B.pre
  have hown : s.vm.findClass RX9 = some m.cls := findClass_of_methodNamed B.named
  have hlocks := B.notSynchronized
  subst hsz
  have hD := hD0.self (sz := s.heap.size)
  generalize hAe : va_A [(h0, .inr (10, [.ref (a 0), .ref (a 1), .ref (a 2), .ref (a 3), .ref (a 4), .ref (a 5), .ref (a 6), .ref (a 7), .ref (a 8), .ref (a 9), .ref (a 10), .ref (a 11), .ref (a 12), .ref (a 13), .ref (a 14), .ref (a 15), .ref (a 16), .ref (a 17), .ref (a 18), .ref (a 19), .int 0, .int 0, .int tk, .int 0, .int 0, .ref (a 25), .ref (a 26), .ref (a 27), .ref (a 28), .ref (a 29), .ref (a 30), .ref (a 31), .ref (a 32), .int 0, .ref (a 34), .ref (a 35), .ref (a 36), .ref (a 37), .int 0, .int (-1), .ref (a 40), .ref (a 41), .ref (a 42), .ref (a 43), .ref (a 44), .int 0]))] s.heap.size = A at hD ⊢
  have hA : ∀ q : Nat, s.heap.size ≤ q → A q := fun q h => by rw [← hAe]; exact Or.inr h
  have hS : va_S A s.heap s.heap [] := va_S.rf
  have hP : va_P (dC, dI) vwCl [(h0, .inr (10, [.ref (a 0), .ref (a 1), .ref (a 2), .ref (a 3), .ref (a 4), .ref (a 5), .ref (a 6), .ref (a 7), .ref (a 8), .ref (a 9), .ref (a 10), .ref (a 11), .ref (a 12), .ref (a 13), .ref (a 14), .ref (a 15), .ref (a 16), .ref (a 17), .ref (a 18), .ref (a 19), .int 0, .int 0, .int tk, .int 0, .int 0, .ref (a 25), .ref (a 26), .ref (a 27), .ref (a 28), .ref (a 29), .ref (a 30), .ref (a 31), .ref (a 32), .int 0, .ref (a 34), .ref (a 35), .ref (a 36), .ref (a 37), .int 0, .int (-1), .ref (a 40), .ref (a 41), .ref (a 42), .ref (a 43), .ref (a 44), .int 0]))] s.heap := hP
  have hl := lv_entry ([.ref h0, .int p0, .int p1]) (n := 3) (Nat.le_of_ble_eq_true rfl)
  rw [lg_entry_eq]
  generalize (lg_sl ([.ref h0, .int p0, .int p1]) ++ List.replicate (3 - (lg_sl ([.ref h0, .int p0, .int p1])).length) Slot.unset).toArray = ls at hl ⊢
  have hl : lv_has ls 3 [(0, .ref h0), (1, .int p0), (2, .int p1)] := hl
  refine lv_aload_n hx hb dX9_about_0 rfl (lv_at hl 0 rfl) ?_
  refine lv_iload_n hx hb dX9_about_1 rfl (lv_at hl 1 rfl) ?_
  have hPc := hP.sub (ws' := [(h0, .inr (10, [.ref (a 0), .ref (a 1), .ref (a 2), .ref (a 3), .ref (a 4), .ref (a 5), .ref (a 6), .ref (a 7), .ref (a 8), .ref (a 9), .ref (a 10), .ref (a 11), .ref (a 12), .ref (a 13), .ref (a 14), .ref (a 15), .ref (a 16), .ref (a 17), .ref (a 18), .ref (a 19), .int 0, .int 0, .int tk, .int 0, .int 0, .ref (a 25), .ref (a 26), .ref (a 27), .ref (a 28), .ref (a 29), .ref (a 30), .ref (a 31), .ref (a 32), .int 0, .ref (a 34), .ref (a 35), .ref (a 36), .ref (a 37), .int 0, .int (-1), .ref (a 40), .ref (a 41), .ref (a 42), .ref (a 43), .ref (a 44), .int 0]))]) [0] rfl
  have hDc := hD.sub (ws' := [(h0, .inr (10, [.ref (a 0), .ref (a 1), .ref (a 2), .ref (a 3), .ref (a 4), .ref (a 5), .ref (a 6), .ref (a 7), .ref (a 8), .ref (a 9), .ref (a 10), .ref (a 11), .ref (a 12), .ref (a 13), .ref (a 14), .ref (a 15), .ref (a 16), .ref (a 17), .ref (a 18), .ref (a 19), .int 0, .int 0, .int tk, .int 0, .int 0, .ref (a 25), .ref (a 26), .ref (a 27), .ref (a 28), .ref (a 29), .ref (a 30), .ref (a 31), .ref (a 32), .int 0, .ref (a 34), .ref (a 35), .ref (a 36), .ref (a 37), .int 0, .int (-1), .ref (a 40), .ref (a 41), .ref (a 42), .ref (a 43), .ref (a 44), .int 0]))]) [0] (by decide) rfl
  have hKc := hK.sub (tys' := []) [] rfl
  have hFc := va_free (wc := [(h0, .inr (10, [.ref (a 0), .ref (a 1), .ref (a 2), .ref (a 3), .ref (a 4), .ref (a 5), .ref (a 6), .ref (a 7), .ref (a 8), .ref (a 9), .ref (a 10), .ref (a 11), .ref (a 12), .ref (a 13), .ref (a 14), .ref (a 15), .ref (a 16), .ref (a 17), .ref (a 18), .ref (a 19), .int 0, .int 0, .int tk, .int 0, .int 0, .ref (a 25), .ref (a 26), .ref (a 27), .ref (a 28), .ref (a 29), .ref (a 30), .ref (a 31), .ref (a 32), .int 0, .ref (a 34), .ref (a 35), .ref (a 36), .ref (a 37), .int 0, .int (-1), .ref (a 40), .ref (a 41), .ref (a 42), .ref (a 43), .ref (a 44), .int 0]))]) hD hS hA [0] rfl
  refine va_calli (va_runV (As := [.int p0]) (rest := []) ⟨hx, hb, hml, hown, hts⟩ (c_is l dC dI h0 a tk p0 s.heap.size) (cwV 1 hts wc_m_about_is_135 rfl rfl rfl (by decide +kernel) ⟨Nat.le_of_ble_eq_true rfl, Nat.le_of_ble_eq_true rfl⟩) ⟨fun a U g mk q => by obtain ⟨q0, q1, qP, qK, qD, qN⟩ := q; exact ⟨q0, q1, qP, va_K.moved (u := U) (U := U.calling g mk a) (Vm.Alike.refl U.vm) qK, qD, pw_N.same (u := U) (U := U.calling g mk a) rfl qN⟩, va_recv hKc hPc (ci := 10) (q0 := 0) rfl rfl, fun U hU hW => ⟨rfl, by rw [hU], by rw [hU]; exact hPc, va_K.moved hW.alike hKc, hDc.weaken (fun _ _ _ _ => trivial), pw_N.warm hW hN⟩⟩ rfl rfl hl.1 rfl (lv_room (Nat.le_of_ble_eq_true rfl)) dX9_about_2 ⟨Nat.le_of_ble_eq_true rfl, Nat.le_of_ble_eq_true rfl⟩) hS (fun q _ h => hFc q h) hFc (fun r_1 u t H1 locs ht hvm hw hB hz1 hk1 hS => ?_)
  obtain ⟨hP1, hD1⟩ := hB
  rw [ht] at hP1
  obtain ⟨hP, hD⟩ := va_join (wr := []) (w1 := [(h0, .inr (10, [.ref (a 0), .ref (a 1), .ref (a 2), .ref (a 3), .ref (a 4), .ref (a 5), .ref (a 6), .ref (a 7), .ref (a 8), .ref (a 9), .ref (a 10), .ref (a 11), .ref (a 12), .ref (a 13), .ref (a 14), .ref (a 15), .ref (a 16), .ref (a 17), .ref (a 18), .ref (a 19), .int 0, .int 0, .int tk, .int 0, .int 0, .ref (a 25), .ref (a 26), .ref (a 27), .ref (a 28), .ref (a 29), .ref (a 30), .ref (a 31), .ref (a 32), .int 0, .ref (a 34), .ref (a 35), .ref (a 36), .ref (a 37), .int 0, .int (-1), .ref (a 40), .ref (a 41), .ref (a 42), .ref (a 43), .ref (a 44), .int 0]))]) hP hD [0] [] rfl rfl (by decide) (by decide) hk1 hFc hP1 hD1
  generalize H1 = H at hP hS ⊢
  replace hP : va_P (dC, dI) vwCl [(h0, .inr (10, [.ref (a 0), .ref (a 1), .ref (a 2), .ref (a 3), .ref (a 4), .ref (a 5), .ref (a 6), .ref (a 7), .ref (a 8), .ref (a 9), .ref (a 10), .ref (a 11), .ref (a 12), .ref (a 13), .ref (a 14), .ref (a 15), .ref (a 16), .ref (a 17), .ref (a 18), .ref (a 19), .int 0, .int 0, .int tk, .int 0, .int 0, .ref (a 25), .ref (a 26), .ref (a 27), .ref (a 28), .ref (a 29), .ref (a 30), .ref (a 31), .ref (a 32), .int 0, .ref (a 34), .ref (a 35), .ref (a 36), .ref (a 37), .int 0, .int (-1), .ref (a 40), .ref (a 41), .ref (a 42), .ref (a 43), .ref (a 44), .int 0]))] H := hP
  replace hD : va_D A [(h0, .inr (10, [.ref (a 0), .ref (a 1), .ref (a 2), .ref (a 3), .ref (a 4), .ref (a 5), .ref (a 6), .ref (a 7), .ref (a 8), .ref (a 9), .ref (a 10), .ref (a 11), .ref (a 12), .ref (a 13), .ref (a 14), .ref (a 15), .ref (a 16), .ref (a 17), .ref (a 18), .ref (a 19), .int 0, .int 0, .int tk, .int 0, .int 0, .ref (a 25), .ref (a 26), .ref (a 27), .ref (a 28), .ref (a 29), .ref (a 30), .ref (a 31), .ref (a 32), .int 0, .ref (a 34), .ref (a 35), .ref (a 36), .ref (a 37), .int 0, .int (-1), .ref (a 40), .ref (a 41), .ref (a 42), .ref (a 43), .ref (a 44), .int 0]))] := hD
  try dsimp only at hw
  subst hw
  refine lv_if_ne (tgt := 10) hx hb dX9_about_5 (by decide) (fun c9 => absurd (by decide) c9) (fun _ => ?_)
  refine lv_iconst (v := (-1)) hx hb dX9_about_8 (by decide) ?_
  exact W.iret (v := (-1)) hx hb hr (fun t ht hW => ⟨⟨(-1), (), rfl, rfl, trivial⟩, hS.F ht⟩) hS.2.2 dX9_about_9
def wq_m_related : List Cond := [.code yX9_related cX9_related 4 (some .int), .methodLink RX9 139 yX9_isPair, .instanceMethod yX9_isPair, .selects RX9 yX9_isPair yX9_isPair, .initialized RX9] ++ (wq_isPair)
set_option maxRecDepth 20000 in
theorem wi_m_related : ∀ w ∈ wq_m_related, w ∈ lw_tbl := List.forall_mem_append.mpr ⟨(by decide +kernel), wi_isPair⟩
set_option maxRecDepth 20000 in
theorem wg_m_related : GoodIn wq_m_related wq_m_related := goodIn_sub (fun _ h => h) (by decide +kernel)
set_option maxRecDepth 20000 in
theorem wc_m_related_isPair_139 : GoodIn wq_m_related (wsV RX9 139 RX9 yX9_isPair wq_isPair) := goodIn_app (goodIn_of _ (by decide +kernel)) (fun w h => ⟨List.mem_append_right _ (h), (wg_isPair w h).2⟩)
set_option maxHeartbeats 4000000 in
set_option maxRecDepth 100000 in
theorem c_m_related (l : Launch) (dC : Nat → ClassId) (dI : Nat → Nat → Nat) (h0 : Nat) (a : Nat → Nat) (tk : Int32) (p0 : Int32) (p1 : Int32) (p2 : Int32) (sz : Nat) : Met l yX9_related wq_m_related ({ frames := 2, cells := 0, slots := 0, locals := 44 }) (va_Pc [.ref h0, .int p0, .int p1, .int p2] (fun U => U.heap.size = sz ∧ va_P (dC, dI) vwCl [(h0, .inr (10, [.ref (a 0), .ref (a 1), .ref (a 2), .ref (a 3), .ref (a 4), .ref (a 5), .ref (a 6), .ref (a 7), .ref (a 8), .ref (a 9), .ref (a 10), .ref (a 11), .ref (a 12), .ref (a 13), .ref (a 14), .ref (a 15), .ref (a 16), .ref (a 17), .ref (a 18), .ref (a 19), .int 0, .int 0, .int tk, .int 0, .int 0, .ref (a 25), .ref (a 26), .ref (a 27), .ref (a 28), .ref (a 29), .ref (a 30), .ref (a 31), .ref (a 32), .int 0, .ref (a 34), .ref (a 35), .ref (a 36), .ref (a 37), .int 0, .int (-1), .ref (a 40), .ref (a 41), .ref (a 42), .ref (a 43), .ref (a 44), .int 0]))] U.heap ∧ va_K (dC, dI) vwCl [] U ∧ va_D (fun _ => True) [(h0, .inr (10, [.ref (a 0), .ref (a 1), .ref (a 2), .ref (a 3), .ref (a 4), .ref (a 5), .ref (a 6), .ref (a 7), .ref (a 8), .ref (a 9), .ref (a 10), .ref (a 11), .ref (a 12), .ref (a 13), .ref (a 14), .ref (a 15), .ref (a 16), .ref (a 17), .ref (a 18), .ref (a 19), .int 0, .int 0, .int tk, .int 0, .int 0, .ref (a 25), .ref (a 26), .ref (a 27), .ref (a 28), .ref (a 29), .ref (a 30), .ref (a 31), .ref (a 32), .int 0, .ref (a 34), .ref (a 35), .ref (a 36), .ref (a 37), .int 0, .int (-1), .ref (a 40), .ref (a 41), .ref (a 42), .ref (a 43), .ref (a 44), .int 0]))] ∧ pw_N U)) (va_Qi (fun (r : Int32) (_ : Unit) => r = (-1)) (fun (_ : Unit) (t : State) => True) (va_A [(h0, .inr (10, [.ref (a 0), .ref (a 1), .ref (a 2), .ref (a 3), .ref (a 4), .ref (a 5), .ref (a 6), .ref (a 7), .ref (a 8), .ref (a 9), .ref (a 10), .ref (a 11), .ref (a 12), .ref (a 13), .ref (a 14), .ref (a 15), .ref (a 16), .ref (a 17), .ref (a 18), .ref (a 19), .int 0, .int 0, .int tk, .int 0, .int 0, .ref (a 25), .ref (a 26), .ref (a 27), .ref (a 28), .ref (a 29), .ref (a 30), .ref (a 31), .ref (a 32), .int 0, .ref (a 34), .ref (a 35), .ref (a 36), .ref (a 37), .int 0, .int (-1), .ref (a 40), .ref (a 41), .ref (a 42), .ref (a 43), .ref (a 44), .int 0]))] sz)) 0 0 (va_A [(h0, .inr (10, [.ref (a 0), .ref (a 1), .ref (a 2), .ref (a 3), .ref (a 4), .ref (a 5), .ref (a 6), .ref (a 7), .ref (a 8), .ref (a 9), .ref (a 10), .ref (a 11), .ref (a 12), .ref (a 13), .ref (a 14), .ref (a 15), .ref (a 16), .ref (a 17), .ref (a 18), .ref (a 19), .int 0, .int 0, .int tk, .int 0, .int 0, .ref (a 25), .ref (a 26), .ref (a 27), .ref (a 28), .ref (a 29), .ref (a 30), .ref (a 31), .ref (a 32), .int 0, .ref (a 34), .ref (a 35), .ref (a 36), .ref (a 37), .int 0, .int (-1), .ref (a 40), .ref (a 41), .ref (a 42), .ref (a 43), .ref (a 44), .int 0]))] sz) := by
  refine Met.ofW (cc := cX9_related) (maxL := 4) (ret := (some .int)) (by decide) rfl ?_
  intro p e s m args below meth c s₁ B hml hv
  obtain ⟨rfl, hsz, hP, hK, hD0, hN⟩ := hv
  have hx := B.exec
  have hb := B.bytes
  have hr := B.returns
  have hts := atoms_spec (ws := wq_m_related) B.pre
  have hown : s.vm.findClass RX9 = some m.cls := findClass_of_methodNamed B.named
  have hlocks := B.notSynchronized
  subst hsz
  have hD := hD0.self (sz := s.heap.size)
  generalize hAe : va_A [(h0, .inr (10, [.ref (a 0), .ref (a 1), .ref (a 2), .ref (a 3), .ref (a 4), .ref (a 5), .ref (a 6), .ref (a 7), .ref (a 8), .ref (a 9), .ref (a 10), .ref (a 11), .ref (a 12), .ref (a 13), .ref (a 14), .ref (a 15), .ref (a 16), .ref (a 17), .ref (a 18), .ref (a 19), .int 0, .int 0, .int tk, .int 0, .int 0, .ref (a 25), .ref (a 26), .ref (a 27), .ref (a 28), .ref (a 29), .ref (a 30), .ref (a 31), .ref (a 32), .int 0, .ref (a 34), .ref (a 35), .ref (a 36), .ref (a 37), .int 0, .int (-1), .ref (a 40), .ref (a 41), .ref (a 42), .ref (a 43), .ref (a 44), .int 0]))] s.heap.size = A at hD ⊢
  have hA : ∀ q : Nat, s.heap.size ≤ q → A q := fun q h => by rw [← hAe]; exact Or.inr h
  have hS : va_S A s.heap s.heap [] := va_S.rf
  have hP : va_P (dC, dI) vwCl [(h0, .inr (10, [.ref (a 0), .ref (a 1), .ref (a 2), .ref (a 3), .ref (a 4), .ref (a 5), .ref (a 6), .ref (a 7), .ref (a 8), .ref (a 9), .ref (a 10), .ref (a 11), .ref (a 12), .ref (a 13), .ref (a 14), .ref (a 15), .ref (a 16), .ref (a 17), .ref (a 18), .ref (a 19), .int 0, .int 0, .int tk, .int 0, .int 0, .ref (a 25), .ref (a 26), .ref (a 27), .ref (a 28), .ref (a 29), .ref (a 30), .ref (a 31), .ref (a 32), .int 0, .ref (a 34), .ref (a 35), .ref (a 36), .ref (a 37), .int 0, .int (-1), .ref (a 40), .ref (a 41), .ref (a 42), .ref (a 43), .ref (a 44), .int 0]))] s.heap := hP
  have hl := lv_entry ([.ref h0, .int p0, .int p1, .int p2]) (n := 4) (Nat.le_of_ble_eq_true rfl)
  rw [lg_entry_eq]
  generalize (lg_sl ([.ref h0, .int p0, .int p1, .int p2]) ++ List.replicate (4 - (lg_sl ([.ref h0, .int p0, .int p1, .int p2])).length) Slot.unset).toArray = ls at hl ⊢
  have hl : lv_has ls 4 [(0, .ref h0), (1, .int p0), (2, .int p1), (3, .int p2)] := hl
  refine lv_aload_n hx hb dX9_related_0 rfl (lv_at hl 0 rfl) ?_
  refine lv_iload_n hx hb dX9_related_1 rfl (lv_at hl 1 rfl) ?_
  refine lv_iload_n hx hb dX9_related_2 rfl (lv_at hl 2 rfl) ?_
  refine lv_iload_n hx hb dX9_related_3 rfl (lv_at hl 3 rfl) ?_
  have hPc := hP.sub (ws' := [(h0, .inr (10, [.ref (a 0), .ref (a 1), .ref (a 2), .ref (a 3), .ref (a 4), .ref (a 5), .ref (a 6), .ref (a 7), .ref (a 8), .ref (a 9), .ref (a 10), .ref (a 11), .ref (a 12), .ref (a 13), .ref (a 14), .ref (a 15), .ref (a 16), .ref (a 17), .ref (a 18), .ref (a 19), .int 0, .int 0, .int tk, .int 0, .int 0, .ref (a 25), .ref (a 26), .ref (a 27), .ref (a 28), .ref (a 29), .ref (a 30), .ref (a 31), .ref (a 32), .int 0, .ref (a 34), .ref (a 35), .ref (a 36), .ref (a 37), .int 0, .int (-1), .ref (a 40), .ref (a 41), .ref (a 42), .ref (a 43), .ref (a 44), .int 0]))]) [0] rfl
  have hDc := hD.sub (ws' := [(h0, .inr (10, [.ref (a 0), .ref (a 1), .ref (a 2), .ref (a 3), .ref (a 4), .ref (a 5), .ref (a 6), .ref (a 7), .ref (a 8), .ref (a 9), .ref (a 10), .ref (a 11), .ref (a 12), .ref (a 13), .ref (a 14), .ref (a 15), .ref (a 16), .ref (a 17), .ref (a 18), .ref (a 19), .int 0, .int 0, .int tk, .int 0, .int 0, .ref (a 25), .ref (a 26), .ref (a 27), .ref (a 28), .ref (a 29), .ref (a 30), .ref (a 31), .ref (a 32), .int 0, .ref (a 34), .ref (a 35), .ref (a 36), .ref (a 37), .int 0, .int (-1), .ref (a 40), .ref (a 41), .ref (a 42), .ref (a 43), .ref (a 44), .int 0]))]) [0] (by decide) rfl
  have hKc := hK.sub (tys' := []) [] rfl
  have hFc := va_free (wc := [(h0, .inr (10, [.ref (a 0), .ref (a 1), .ref (a 2), .ref (a 3), .ref (a 4), .ref (a 5), .ref (a 6), .ref (a 7), .ref (a 8), .ref (a 9), .ref (a 10), .ref (a 11), .ref (a 12), .ref (a 13), .ref (a 14), .ref (a 15), .ref (a 16), .ref (a 17), .ref (a 18), .ref (a 19), .int 0, .int 0, .int tk, .int 0, .int 0, .ref (a 25), .ref (a 26), .ref (a 27), .ref (a 28), .ref (a 29), .ref (a 30), .ref (a 31), .ref (a 32), .int 0, .ref (a 34), .ref (a 35), .ref (a 36), .ref (a 37), .int 0, .int (-1), .ref (a 40), .ref (a 41), .ref (a 42), .ref (a 43), .ref (a 44), .int 0]))]) hD hS hA [0] rfl
  refine va_calli (va_runV (As := [.int p0, .int p1, .int p2]) (rest := []) ⟨hx, hb, hml, hown, hts⟩ (c_isPair l dC dI h0 a tk p0 p1 p2 s.heap.size) (cwV 3 hts wc_m_related_isPair_139 rfl rfl rfl (by decide +kernel) ⟨Nat.le_of_ble_eq_true rfl, Nat.le_of_ble_eq_true rfl⟩) ⟨fun a U g mk q => by obtain ⟨q0, q1, qP, qK, qD, qN⟩ := q; exact ⟨q0, q1, qP, va_K.moved (u := U) (U := U.calling g mk a) (Vm.Alike.refl U.vm) qK, qD, pw_N.same (u := U) (U := U.calling g mk a) rfl qN⟩, va_recv hKc hPc (ci := 10) (q0 := 0) rfl rfl, fun U hU hW => ⟨rfl, by rw [hU], by rw [hU]; exact hPc, va_K.moved hW.alike hKc, hDc.weaken (fun _ _ _ _ => trivial), pw_N.warm hW hN⟩⟩ rfl rfl hl.1 rfl (lv_room (Nat.le_of_ble_eq_true rfl)) dX9_related_4 ⟨Nat.le_of_ble_eq_true rfl, Nat.le_of_ble_eq_true rfl⟩) hS (fun q _ h => hFc q h) hFc (fun r_1 u t H1 locs ht hvm hw hB hz1 hk1 hS => ?_)
  obtain ⟨hP1, hD1⟩ := hB
  rw [ht] at hP1
  obtain ⟨hP, hD⟩ := va_join (wr := []) (w1 := [(h0, .inr (10, [.ref (a 0), .ref (a 1), .ref (a 2), .ref (a 3), .ref (a 4), .ref (a 5), .ref (a 6), .ref (a 7), .ref (a 8), .ref (a 9), .ref (a 10), .ref (a 11), .ref (a 12), .ref (a 13), .ref (a 14), .ref (a 15), .ref (a 16), .ref (a 17), .ref (a 18), .ref (a 19), .int 0, .int 0, .int tk, .int 0, .int 0, .ref (a 25), .ref (a 26), .ref (a 27), .ref (a 28), .ref (a 29), .ref (a 30), .ref (a 31), .ref (a 32), .int 0, .ref (a 34), .ref (a 35), .ref (a 36), .ref (a 37), .int 0, .int (-1), .ref (a 40), .ref (a 41), .ref (a 42), .ref (a 43), .ref (a 44), .int 0]))]) hP hD [0] [] rfl rfl (by decide) (by decide) hk1 hFc hP1 hD1
  generalize H1 = H at hP hS ⊢
  replace hP : va_P (dC, dI) vwCl [(h0, .inr (10, [.ref (a 0), .ref (a 1), .ref (a 2), .ref (a 3), .ref (a 4), .ref (a 5), .ref (a 6), .ref (a 7), .ref (a 8), .ref (a 9), .ref (a 10), .ref (a 11), .ref (a 12), .ref (a 13), .ref (a 14), .ref (a 15), .ref (a 16), .ref (a 17), .ref (a 18), .ref (a 19), .int 0, .int 0, .int tk, .int 0, .int 0, .ref (a 25), .ref (a 26), .ref (a 27), .ref (a 28), .ref (a 29), .ref (a 30), .ref (a 31), .ref (a 32), .int 0, .ref (a 34), .ref (a 35), .ref (a 36), .ref (a 37), .int 0, .int (-1), .ref (a 40), .ref (a 41), .ref (a 42), .ref (a 43), .ref (a 44), .int 0]))] H := hP
  replace hD : va_D A [(h0, .inr (10, [.ref (a 0), .ref (a 1), .ref (a 2), .ref (a 3), .ref (a 4), .ref (a 5), .ref (a 6), .ref (a 7), .ref (a 8), .ref (a 9), .ref (a 10), .ref (a 11), .ref (a 12), .ref (a 13), .ref (a 14), .ref (a 15), .ref (a 16), .ref (a 17), .ref (a 18), .ref (a 19), .int 0, .int 0, .int tk, .int 0, .int 0, .ref (a 25), .ref (a 26), .ref (a 27), .ref (a 28), .ref (a 29), .ref (a 30), .ref (a 31), .ref (a 32), .int 0, .ref (a 34), .ref (a 35), .ref (a 36), .ref (a 37), .int 0, .int (-1), .ref (a 40), .ref (a 41), .ref (a 42), .ref (a 43), .ref (a 44), .int 0]))] := hD
  try dsimp only at hw
  subst hw
  refine lv_if_eq (tgt := 28) hx hb dX9_related_7 (by decide) (fun _ => ?_) (fun c9 => absurd (by decide) c9)
  refine lv_iconst (v := (-1)) hx hb dX9_related_28 (by decide) ?_
  exact W.iret (v := (-1)) hx hb hr (fun t ht hW => ⟨⟨(-1), (), rfl, rfl, trivial⟩, hS.F ht⟩) hS.2.2 dX9_related_29
def wq_m_waits : List Cond := [.code yX9_waits cX9_waits 5 (some .int), .methodLink RX9 135 yX9_is, .instanceMethod yX9_is, .selects RX9 yX9_is yX9_is, .initialized RX9] ++ (wq_is)
set_option maxRecDepth 20000 in
theorem wi_m_waits : ∀ w ∈ wq_m_waits, w ∈ lw_tbl := List.forall_mem_append.mpr ⟨(by decide +kernel), wi_is⟩
set_option maxRecDepth 20000 in
theorem wg_m_waits : GoodIn wq_m_waits wq_m_waits := goodIn_sub (fun _ h => h) (by decide +kernel)
set_option maxRecDepth 20000 in
theorem wc_m_waits_is_135 : GoodIn wq_m_waits (wsV RX9 135 RX9 yX9_is wq_is) := goodIn_app (goodIn_of _ (by decide +kernel)) (fun w h => ⟨List.mem_append_right _ (h), (wg_is w h).2⟩)
set_option maxHeartbeats 4000000 in
set_option maxRecDepth 100000 in
theorem c_m_waits (l : Launch) (dC : Nat → ClassId) (dI : Nat → Nat → Nat) (h0 : Nat) (a : Nat → Nat) (tk : Int32) (p0 : Int32) (p1 : Int32) (sz : Nat) : Met l yX9_waits wq_m_waits ({ frames := 1, cells := 0, slots := 0, locals := 21 }) (va_Pc [.ref h0, .int p0, .int p1] (fun U => U.heap.size = sz ∧ va_P (dC, dI) vwCl [(h0, .inr (10, [.ref (a 0), .ref (a 1), .ref (a 2), .ref (a 3), .ref (a 4), .ref (a 5), .ref (a 6), .ref (a 7), .ref (a 8), .ref (a 9), .ref (a 10), .ref (a 11), .ref (a 12), .ref (a 13), .ref (a 14), .ref (a 15), .ref (a 16), .ref (a 17), .ref (a 18), .ref (a 19), .int 0, .int 0, .int tk, .int 0, .int 0, .ref (a 25), .ref (a 26), .ref (a 27), .ref (a 28), .ref (a 29), .ref (a 30), .ref (a 31), .ref (a 32), .int 0, .ref (a 34), .ref (a 35), .ref (a 36), .ref (a 37), .int 0, .int (-1), .ref (a 40), .ref (a 41), .ref (a 42), .ref (a 43), .ref (a 44), .int 0]))] U.heap ∧ va_K (dC, dI) vwCl [] U ∧ va_D (fun _ => True) [(h0, .inr (10, [.ref (a 0), .ref (a 1), .ref (a 2), .ref (a 3), .ref (a 4), .ref (a 5), .ref (a 6), .ref (a 7), .ref (a 8), .ref (a 9), .ref (a 10), .ref (a 11), .ref (a 12), .ref (a 13), .ref (a 14), .ref (a 15), .ref (a 16), .ref (a 17), .ref (a 18), .ref (a 19), .int 0, .int 0, .int tk, .int 0, .int 0, .ref (a 25), .ref (a 26), .ref (a 27), .ref (a 28), .ref (a 29), .ref (a 30), .ref (a 31), .ref (a 32), .int 0, .ref (a 34), .ref (a 35), .ref (a 36), .ref (a 37), .int 0, .int (-1), .ref (a 40), .ref (a 41), .ref (a 42), .ref (a 43), .ref (a 44), .int 0]))] ∧ pw_N U)) (va_Qi (fun (r : Int32) (_ : Unit) => r = (-1)) (fun (_ : Unit) (t : State) => True) (va_A [(h0, .inr (10, [.ref (a 0), .ref (a 1), .ref (a 2), .ref (a 3), .ref (a 4), .ref (a 5), .ref (a 6), .ref (a 7), .ref (a 8), .ref (a 9), .ref (a 10), .ref (a 11), .ref (a 12), .ref (a 13), .ref (a 14), .ref (a 15), .ref (a 16), .ref (a 17), .ref (a 18), .ref (a 19), .int 0, .int 0, .int tk, .int 0, .int 0, .ref (a 25), .ref (a 26), .ref (a 27), .ref (a 28), .ref (a 29), .ref (a 30), .ref (a 31), .ref (a 32), .int 0, .ref (a 34), .ref (a 35), .ref (a 36), .ref (a 37), .int 0, .int (-1), .ref (a 40), .ref (a 41), .ref (a 42), .ref (a 43), .ref (a 44), .int 0]))] sz)) 0 0 (va_A [(h0, .inr (10, [.ref (a 0), .ref (a 1), .ref (a 2), .ref (a 3), .ref (a 4), .ref (a 5), .ref (a 6), .ref (a 7), .ref (a 8), .ref (a 9), .ref (a 10), .ref (a 11), .ref (a 12), .ref (a 13), .ref (a 14), .ref (a 15), .ref (a 16), .ref (a 17), .ref (a 18), .ref (a 19), .int 0, .int 0, .int tk, .int 0, .int 0, .ref (a 25), .ref (a 26), .ref (a 27), .ref (a 28), .ref (a 29), .ref (a 30), .ref (a 31), .ref (a 32), .int 0, .ref (a 34), .ref (a 35), .ref (a 36), .ref (a 37), .int 0, .int (-1), .ref (a 40), .ref (a 41), .ref (a 42), .ref (a 43), .ref (a 44), .int 0]))] sz) := by
  refine Met.ofW (cc := cX9_waits) (maxL := 5) (ret := (some .int)) (by decide) rfl ?_
  intro p e s m args below meth c s₁ B hml hv
  obtain ⟨rfl, hsz, hP, hK, hD0, hN⟩ := hv
  have hx := B.exec
  have hb := B.bytes
  have hr := B.returns
  have hts := atoms_spec (ws := wq_m_waits) B.pre
  have hown : s.vm.findClass RX9 = some m.cls := findClass_of_methodNamed B.named
  have hlocks := B.notSynchronized
  subst hsz
  have hD := hD0.self (sz := s.heap.size)
  generalize hAe : va_A [(h0, .inr (10, [.ref (a 0), .ref (a 1), .ref (a 2), .ref (a 3), .ref (a 4), .ref (a 5), .ref (a 6), .ref (a 7), .ref (a 8), .ref (a 9), .ref (a 10), .ref (a 11), .ref (a 12), .ref (a 13), .ref (a 14), .ref (a 15), .ref (a 16), .ref (a 17), .ref (a 18), .ref (a 19), .int 0, .int 0, .int tk, .int 0, .int 0, .ref (a 25), .ref (a 26), .ref (a 27), .ref (a 28), .ref (a 29), .ref (a 30), .ref (a 31), .ref (a 32), .int 0, .ref (a 34), .ref (a 35), .ref (a 36), .ref (a 37), .int 0, .int (-1), .ref (a 40), .ref (a 41), .ref (a 42), .ref (a 43), .ref (a 44), .int 0]))] s.heap.size = A at hD ⊢
  have hA : ∀ q : Nat, s.heap.size ≤ q → A q := fun q h => by rw [← hAe]; exact Or.inr h
  have hS : va_S A s.heap s.heap [] := va_S.rf
  have hP : va_P (dC, dI) vwCl [(h0, .inr (10, [.ref (a 0), .ref (a 1), .ref (a 2), .ref (a 3), .ref (a 4), .ref (a 5), .ref (a 6), .ref (a 7), .ref (a 8), .ref (a 9), .ref (a 10), .ref (a 11), .ref (a 12), .ref (a 13), .ref (a 14), .ref (a 15), .ref (a 16), .ref (a 17), .ref (a 18), .ref (a 19), .int 0, .int 0, .int tk, .int 0, .int 0, .ref (a 25), .ref (a 26), .ref (a 27), .ref (a 28), .ref (a 29), .ref (a 30), .ref (a 31), .ref (a 32), .int 0, .ref (a 34), .ref (a 35), .ref (a 36), .ref (a 37), .int 0, .int (-1), .ref (a 40), .ref (a 41), .ref (a 42), .ref (a 43), .ref (a 44), .int 0]))] s.heap := hP
  have hl := lv_entry ([.ref h0, .int p0, .int p1]) (n := 5) (Nat.le_of_ble_eq_true rfl)
  rw [lg_entry_eq]
  generalize (lg_sl ([.ref h0, .int p0, .int p1]) ++ List.replicate (5 - (lg_sl ([.ref h0, .int p0, .int p1])).length) Slot.unset).toArray = ls at hl ⊢
  have hl : lv_has ls 5 [(0, .ref h0), (1, .int p0), (2, .int p1)] := hl
  refine lv_aload_n hx hb dX9_waits_0 rfl (lv_at hl 0 rfl) ?_
  refine lv_iload_n hx hb dX9_waits_1 rfl (lv_at hl 1 rfl) ?_
  have hPc := hP.sub (ws' := [(h0, .inr (10, [.ref (a 0), .ref (a 1), .ref (a 2), .ref (a 3), .ref (a 4), .ref (a 5), .ref (a 6), .ref (a 7), .ref (a 8), .ref (a 9), .ref (a 10), .ref (a 11), .ref (a 12), .ref (a 13), .ref (a 14), .ref (a 15), .ref (a 16), .ref (a 17), .ref (a 18), .ref (a 19), .int 0, .int 0, .int tk, .int 0, .int 0, .ref (a 25), .ref (a 26), .ref (a 27), .ref (a 28), .ref (a 29), .ref (a 30), .ref (a 31), .ref (a 32), .int 0, .ref (a 34), .ref (a 35), .ref (a 36), .ref (a 37), .int 0, .int (-1), .ref (a 40), .ref (a 41), .ref (a 42), .ref (a 43), .ref (a 44), .int 0]))]) [0] rfl
  have hDc := hD.sub (ws' := [(h0, .inr (10, [.ref (a 0), .ref (a 1), .ref (a 2), .ref (a 3), .ref (a 4), .ref (a 5), .ref (a 6), .ref (a 7), .ref (a 8), .ref (a 9), .ref (a 10), .ref (a 11), .ref (a 12), .ref (a 13), .ref (a 14), .ref (a 15), .ref (a 16), .ref (a 17), .ref (a 18), .ref (a 19), .int 0, .int 0, .int tk, .int 0, .int 0, .ref (a 25), .ref (a 26), .ref (a 27), .ref (a 28), .ref (a 29), .ref (a 30), .ref (a 31), .ref (a 32), .int 0, .ref (a 34), .ref (a 35), .ref (a 36), .ref (a 37), .int 0, .int (-1), .ref (a 40), .ref (a 41), .ref (a 42), .ref (a 43), .ref (a 44), .int 0]))]) [0] (by decide) rfl
  have hKc := hK.sub (tys' := []) [] rfl
  have hFc := va_free (wc := [(h0, .inr (10, [.ref (a 0), .ref (a 1), .ref (a 2), .ref (a 3), .ref (a 4), .ref (a 5), .ref (a 6), .ref (a 7), .ref (a 8), .ref (a 9), .ref (a 10), .ref (a 11), .ref (a 12), .ref (a 13), .ref (a 14), .ref (a 15), .ref (a 16), .ref (a 17), .ref (a 18), .ref (a 19), .int 0, .int 0, .int tk, .int 0, .int 0, .ref (a 25), .ref (a 26), .ref (a 27), .ref (a 28), .ref (a 29), .ref (a 30), .ref (a 31), .ref (a 32), .int 0, .ref (a 34), .ref (a 35), .ref (a 36), .ref (a 37), .int 0, .int (-1), .ref (a 40), .ref (a 41), .ref (a 42), .ref (a 43), .ref (a 44), .int 0]))]) hD hS hA [0] rfl
  refine va_calli (va_runV (As := [.int p0]) (rest := []) ⟨hx, hb, hml, hown, hts⟩ (c_is l dC dI h0 a tk p0 s.heap.size) (cwV 1 hts wc_m_waits_is_135 rfl rfl rfl (by decide +kernel) ⟨Nat.le_of_ble_eq_true rfl, Nat.le_of_ble_eq_true rfl⟩) ⟨fun a U g mk q => by obtain ⟨q0, q1, qP, qK, qD, qN⟩ := q; exact ⟨q0, q1, qP, va_K.moved (u := U) (U := U.calling g mk a) (Vm.Alike.refl U.vm) qK, qD, pw_N.same (u := U) (U := U.calling g mk a) rfl qN⟩, va_recv hKc hPc (ci := 10) (q0 := 0) rfl rfl, fun U hU hW => ⟨rfl, by rw [hU], by rw [hU]; exact hPc, va_K.moved hW.alike hKc, hDc.weaken (fun _ _ _ _ => trivial), pw_N.warm hW hN⟩⟩ rfl rfl hl.1 rfl (lv_room (Nat.le_of_ble_eq_true rfl)) dX9_waits_2 ⟨Nat.le_of_ble_eq_true rfl, Nat.le_of_ble_eq_true rfl⟩) hS (fun q _ h => hFc q h) hFc (fun r_1 u t H1 locs ht hvm hw hB hz1 hk1 hS => ?_)
  obtain ⟨hP1, hD1⟩ := hB
  rw [ht] at hP1
  obtain ⟨hP, hD⟩ := va_join (wr := []) (w1 := [(h0, .inr (10, [.ref (a 0), .ref (a 1), .ref (a 2), .ref (a 3), .ref (a 4), .ref (a 5), .ref (a 6), .ref (a 7), .ref (a 8), .ref (a 9), .ref (a 10), .ref (a 11), .ref (a 12), .ref (a 13), .ref (a 14), .ref (a 15), .ref (a 16), .ref (a 17), .ref (a 18), .ref (a 19), .int 0, .int 0, .int tk, .int 0, .int 0, .ref (a 25), .ref (a 26), .ref (a 27), .ref (a 28), .ref (a 29), .ref (a 30), .ref (a 31), .ref (a 32), .int 0, .ref (a 34), .ref (a 35), .ref (a 36), .ref (a 37), .int 0, .int (-1), .ref (a 40), .ref (a 41), .ref (a 42), .ref (a 43), .ref (a 44), .int 0]))]) hP hD [0] [] rfl rfl (by decide) (by decide) hk1 hFc hP1 hD1
  generalize H1 = H at hP hS ⊢
  replace hP : va_P (dC, dI) vwCl [(h0, .inr (10, [.ref (a 0), .ref (a 1), .ref (a 2), .ref (a 3), .ref (a 4), .ref (a 5), .ref (a 6), .ref (a 7), .ref (a 8), .ref (a 9), .ref (a 10), .ref (a 11), .ref (a 12), .ref (a 13), .ref (a 14), .ref (a 15), .ref (a 16), .ref (a 17), .ref (a 18), .ref (a 19), .int 0, .int 0, .int tk, .int 0, .int 0, .ref (a 25), .ref (a 26), .ref (a 27), .ref (a 28), .ref (a 29), .ref (a 30), .ref (a 31), .ref (a 32), .int 0, .ref (a 34), .ref (a 35), .ref (a 36), .ref (a 37), .int 0, .int (-1), .ref (a 40), .ref (a 41), .ref (a 42), .ref (a 43), .ref (a 44), .int 0]))] H := hP
  replace hD : va_D A [(h0, .inr (10, [.ref (a 0), .ref (a 1), .ref (a 2), .ref (a 3), .ref (a 4), .ref (a 5), .ref (a 6), .ref (a 7), .ref (a 8), .ref (a 9), .ref (a 10), .ref (a 11), .ref (a 12), .ref (a 13), .ref (a 14), .ref (a 15), .ref (a 16), .ref (a 17), .ref (a 18), .ref (a 19), .int 0, .int 0, .int tk, .int 0, .int 0, .ref (a 25), .ref (a 26), .ref (a 27), .ref (a 28), .ref (a 29), .ref (a 30), .ref (a 31), .ref (a 32), .int 0, .ref (a 34), .ref (a 35), .ref (a 36), .ref (a 37), .int 0, .int (-1), .ref (a 40), .ref (a 41), .ref (a 42), .ref (a 43), .ref (a 44), .int 0]))] := hD
  try dsimp only at hw
  subst hw
  refine lv_if_eq (tgt := 17) hx hb dX9_waits_5 (by decide) (fun _ => ?_) (fun c9 => absurd (by decide) c9)
  refine lv_iconst (v := (-1)) hx hb dX9_waits_17 (by decide) ?_
  exact W.iret (v := (-1)) hx hb hr (fun t ht hW => ⟨⟨(-1), (), rfl, rfl, trivial⟩, hS.F ht⟩) hS.2.2 dX9_waits_18
def wq_m_plan : List Cond := [.code yX9_plan cX9_plan 6 (some .int), .methodLink RX9 135 yX9_is, .instanceMethod yX9_is, .selects RX9 yX9_is yX9_is, .initialized RX9] ++ (wq_is)
set_option maxRecDepth 20000 in
theorem wi_m_plan : ∀ w ∈ wq_m_plan, w ∈ lw_tbl := List.forall_mem_append.mpr ⟨(by decide +kernel), wi_is⟩
set_option maxRecDepth 20000 in
theorem wg_m_plan : GoodIn wq_m_plan wq_m_plan := goodIn_sub (fun _ h => h) (by decide +kernel)
set_option maxRecDepth 20000 in
theorem wc_m_plan_is_135 : GoodIn wq_m_plan (wsV RX9 135 RX9 yX9_is wq_is) := goodIn_app (goodIn_of _ (by decide +kernel)) (fun w h => ⟨List.mem_append_right _ (h), (wg_is w h).2⟩)
set_option maxHeartbeats 4000000 in
set_option maxRecDepth 100000 in
theorem c_m_plan (l : Launch) (dC : Nat → ClassId) (dI : Nat → Nat → Nat) (h0 : Nat) (a : Nat → Nat) (tk : Int32) (p0 : Int32) (p1 : Int32) (sz : Nat) : Met l yX9_plan wq_m_plan ({ frames := 1, cells := 0, slots := 0, locals := 21 }) (va_Pc [.ref h0, .int p0, .int p1] (fun U => U.heap.size = sz ∧ va_P (dC, dI) vwCl [(h0, .inr (10, [.ref (a 0), .ref (a 1), .ref (a 2), .ref (a 3), .ref (a 4), .ref (a 5), .ref (a 6), .ref (a 7), .ref (a 8), .ref (a 9), .ref (a 10), .ref (a 11), .ref (a 12), .ref (a 13), .ref (a 14), .ref (a 15), .ref (a 16), .ref (a 17), .ref (a 18), .ref (a 19), .int 0, .int 0, .int tk, .int 0, .int 0, .ref (a 25), .ref (a 26), .ref (a 27), .ref (a 28), .ref (a 29), .ref (a 30), .ref (a 31), .ref (a 32), .int 0, .ref (a 34), .ref (a 35), .ref (a 36), .ref (a 37), .int 0, .int (-1), .ref (a 40), .ref (a 41), .ref (a 42), .ref (a 43), .ref (a 44), .int 0]))] U.heap ∧ va_K (dC, dI) vwCl [] U ∧ va_D (fun _ => True) [(h0, .inr (10, [.ref (a 0), .ref (a 1), .ref (a 2), .ref (a 3), .ref (a 4), .ref (a 5), .ref (a 6), .ref (a 7), .ref (a 8), .ref (a 9), .ref (a 10), .ref (a 11), .ref (a 12), .ref (a 13), .ref (a 14), .ref (a 15), .ref (a 16), .ref (a 17), .ref (a 18), .ref (a 19), .int 0, .int 0, .int tk, .int 0, .int 0, .ref (a 25), .ref (a 26), .ref (a 27), .ref (a 28), .ref (a 29), .ref (a 30), .ref (a 31), .ref (a 32), .int 0, .ref (a 34), .ref (a 35), .ref (a 36), .ref (a 37), .int 0, .int (-1), .ref (a 40), .ref (a 41), .ref (a 42), .ref (a 43), .ref (a 44), .int 0]))] ∧ pw_N U)) (va_Qi (fun (r : Int32) (_ : Unit) => r = (-1)) (fun (_ : Unit) (t : State) => True) (va_A [(h0, .inr (10, [.ref (a 0), .ref (a 1), .ref (a 2), .ref (a 3), .ref (a 4), .ref (a 5), .ref (a 6), .ref (a 7), .ref (a 8), .ref (a 9), .ref (a 10), .ref (a 11), .ref (a 12), .ref (a 13), .ref (a 14), .ref (a 15), .ref (a 16), .ref (a 17), .ref (a 18), .ref (a 19), .int 0, .int 0, .int tk, .int 0, .int 0, .ref (a 25), .ref (a 26), .ref (a 27), .ref (a 28), .ref (a 29), .ref (a 30), .ref (a 31), .ref (a 32), .int 0, .ref (a 34), .ref (a 35), .ref (a 36), .ref (a 37), .int 0, .int (-1), .ref (a 40), .ref (a 41), .ref (a 42), .ref (a 43), .ref (a 44), .int 0]))] sz)) 0 0 (va_A [(h0, .inr (10, [.ref (a 0), .ref (a 1), .ref (a 2), .ref (a 3), .ref (a 4), .ref (a 5), .ref (a 6), .ref (a 7), .ref (a 8), .ref (a 9), .ref (a 10), .ref (a 11), .ref (a 12), .ref (a 13), .ref (a 14), .ref (a 15), .ref (a 16), .ref (a 17), .ref (a 18), .ref (a 19), .int 0, .int 0, .int tk, .int 0, .int 0, .ref (a 25), .ref (a 26), .ref (a 27), .ref (a 28), .ref (a 29), .ref (a 30), .ref (a 31), .ref (a 32), .int 0, .ref (a 34), .ref (a 35), .ref (a 36), .ref (a 37), .int 0, .int (-1), .ref (a 40), .ref (a 41), .ref (a 42), .ref (a 43), .ref (a 44), .int 0]))] sz) := by
  refine Met.ofW (cc := cX9_plan) (maxL := 6) (ret := (some .int)) (by decide) rfl ?_
  intro p e s m args below meth c s₁ B hml hv
  obtain ⟨rfl, hsz, hP, hK, hD0, hN⟩ := hv
  have hx := B.exec
  have hb := B.bytes
  have hr := B.returns
  have hts := atoms_spec (ws := wq_m_plan) B.pre
  have hown : s.vm.findClass RX9 = some m.cls := findClass_of_methodNamed B.named
  have hlocks := B.notSynchronized
  subst hsz
  have hD := hD0.self (sz := s.heap.size)
  generalize hAe : va_A [(h0, .inr (10, [.ref (a 0), .ref (a 1), .ref (a 2), .ref (a 3), .ref (a 4), .ref (a 5), .ref (a 6), .ref (a 7), .ref (a 8), .ref (a 9), .ref (a 10), .ref (a 11), .ref (a 12), .ref (a 13), .ref (a 14), .ref (a 15), .ref (a 16), .ref (a 17), .ref (a 18), .ref (a 19), .int 0, .int 0, .int tk, .int 0, .int 0, .ref (a 25), .ref (a 26), .ref (a 27), .ref (a 28), .ref (a 29), .ref (a 30), .ref (a 31), .ref (a 32), .int 0, .ref (a 34), .ref (a 35), .ref (a 36), .ref (a 37), .int 0, .int (-1), .ref (a 40), .ref (a 41), .ref (a 42), .ref (a 43), .ref (a 44), .int 0]))] s.heap.size = A at hD ⊢
  have hA : ∀ q : Nat, s.heap.size ≤ q → A q := fun q h => by rw [← hAe]; exact Or.inr h
  have hS : va_S A s.heap s.heap [] := va_S.rf
  have hP : va_P (dC, dI) vwCl [(h0, .inr (10, [.ref (a 0), .ref (a 1), .ref (a 2), .ref (a 3), .ref (a 4), .ref (a 5), .ref (a 6), .ref (a 7), .ref (a 8), .ref (a 9), .ref (a 10), .ref (a 11), .ref (a 12), .ref (a 13), .ref (a 14), .ref (a 15), .ref (a 16), .ref (a 17), .ref (a 18), .ref (a 19), .int 0, .int 0, .int tk, .int 0, .int 0, .ref (a 25), .ref (a 26), .ref (a 27), .ref (a 28), .ref (a 29), .ref (a 30), .ref (a 31), .ref (a 32), .int 0, .ref (a 34), .ref (a 35), .ref (a 36), .ref (a 37), .int 0, .int (-1), .ref (a 40), .ref (a 41), .ref (a 42), .ref (a 43), .ref (a 44), .int 0]))] s.heap := hP
  have hl := lv_entry ([.ref h0, .int p0, .int p1]) (n := 6) (Nat.le_of_ble_eq_true rfl)
  rw [lg_entry_eq]
  generalize (lg_sl ([.ref h0, .int p0, .int p1]) ++ List.replicate (6 - (lg_sl ([.ref h0, .int p0, .int p1])).length) Slot.unset).toArray = ls at hl ⊢
  have hl : lv_has ls 6 [(0, .ref h0), (1, .int p0), (2, .int p1)] := hl
  refine lv_iload_n hx hb dX9_plan_0 rfl (lv_at hl 1 rfl) ?_
  refine lv_if_lt (tgt := 17) hx hb dX9_plan_1 (by decide) (fun c_1 => ?_) (fun c_1 => ?_)
  · refine lv_iconst (v := (-1)) hx hb dX9_plan_17 (by decide) ?_
    exact W.iret (v := (-1)) hx hb hr (fun t ht hW => ⟨⟨(-1), (), rfl, rfl, trivial⟩, hS.F ht⟩) hS.2.2 dX9_plan_18
  · refine lv_iload_n hx hb dX9_plan_4 rfl (lv_at hl 1 rfl) ?_
    refine lv_iconst (v := 2) hx hb dX9_plan_5 (by decide) ?_
    refine lv_icmp_gt (tgt := 17) hx hb dX9_plan_6 (by decide) (fun c_2 => ?_) (fun c_2 => ?_)
    · refine lv_iconst (v := (-1)) hx hb dX9_plan_17 (by decide) ?_
      exact W.iret (v := (-1)) hx hb hr (fun t ht hW => ⟨⟨(-1), (), rfl, rfl, trivial⟩, hS.F ht⟩) hS.2.2 dX9_plan_18
    · refine lv_aload_n hx hb dX9_plan_9 rfl (lv_at hl 0 rfl) ?_
      refine lv_iload_n hx hb dX9_plan_10 rfl (lv_at hl 2 rfl) ?_
      have hPc := hP.sub (ws' := [(h0, .inr (10, [.ref (a 0), .ref (a 1), .ref (a 2), .ref (a 3), .ref (a 4), .ref (a 5), .ref (a 6), .ref (a 7), .ref (a 8), .ref (a 9), .ref (a 10), .ref (a 11), .ref (a 12), .ref (a 13), .ref (a 14), .ref (a 15), .ref (a 16), .ref (a 17), .ref (a 18), .ref (a 19), .int 0, .int 0, .int tk, .int 0, .int 0, .ref (a 25), .ref (a 26), .ref (a 27), .ref (a 28), .ref (a 29), .ref (a 30), .ref (a 31), .ref (a 32), .int 0, .ref (a 34), .ref (a 35), .ref (a 36), .ref (a 37), .int 0, .int (-1), .ref (a 40), .ref (a 41), .ref (a 42), .ref (a 43), .ref (a 44), .int 0]))]) [0] rfl
      have hDc := hD.sub (ws' := [(h0, .inr (10, [.ref (a 0), .ref (a 1), .ref (a 2), .ref (a 3), .ref (a 4), .ref (a 5), .ref (a 6), .ref (a 7), .ref (a 8), .ref (a 9), .ref (a 10), .ref (a 11), .ref (a 12), .ref (a 13), .ref (a 14), .ref (a 15), .ref (a 16), .ref (a 17), .ref (a 18), .ref (a 19), .int 0, .int 0, .int tk, .int 0, .int 0, .ref (a 25), .ref (a 26), .ref (a 27), .ref (a 28), .ref (a 29), .ref (a 30), .ref (a 31), .ref (a 32), .int 0, .ref (a 34), .ref (a 35), .ref (a 36), .ref (a 37), .int 0, .int (-1), .ref (a 40), .ref (a 41), .ref (a 42), .ref (a 43), .ref (a 44), .int 0]))]) [0] (by decide) rfl
      have hKc := hK.sub (tys' := []) [] rfl
      have hFc := va_free (wc := [(h0, .inr (10, [.ref (a 0), .ref (a 1), .ref (a 2), .ref (a 3), .ref (a 4), .ref (a 5), .ref (a 6), .ref (a 7), .ref (a 8), .ref (a 9), .ref (a 10), .ref (a 11), .ref (a 12), .ref (a 13), .ref (a 14), .ref (a 15), .ref (a 16), .ref (a 17), .ref (a 18), .ref (a 19), .int 0, .int 0, .int tk, .int 0, .int 0, .ref (a 25), .ref (a 26), .ref (a 27), .ref (a 28), .ref (a 29), .ref (a 30), .ref (a 31), .ref (a 32), .int 0, .ref (a 34), .ref (a 35), .ref (a 36), .ref (a 37), .int 0, .int (-1), .ref (a 40), .ref (a 41), .ref (a 42), .ref (a 43), .ref (a 44), .int 0]))]) hD hS hA [0] rfl
      refine va_calli (va_runV (As := [.int p1]) (rest := []) ⟨hx, hb, hml, hown, hts⟩ (c_is l dC dI h0 a tk p1 s.heap.size) (cwV 1 hts wc_m_plan_is_135 rfl rfl rfl (by decide +kernel) ⟨Nat.le_of_ble_eq_true rfl, Nat.le_of_ble_eq_true rfl⟩) ⟨fun a U g mk q => by obtain ⟨q0, q1, qP, qK, qD, qN⟩ := q; exact ⟨q0, q1, qP, va_K.moved (u := U) (U := U.calling g mk a) (Vm.Alike.refl U.vm) qK, qD, pw_N.same (u := U) (U := U.calling g mk a) rfl qN⟩, va_recv hKc hPc (ci := 10) (q0 := 0) rfl rfl, fun U hU hW => ⟨rfl, by rw [hU], by rw [hU]; exact hPc, va_K.moved hW.alike hKc, hDc.weaken (fun _ _ _ _ => trivial), pw_N.warm hW hN⟩⟩ rfl rfl hl.1 rfl (lv_room (Nat.le_of_ble_eq_true rfl)) dX9_plan_11 ⟨Nat.le_of_ble_eq_true rfl, Nat.le_of_ble_eq_true rfl⟩) hS (fun q _ h => hFc q h) hFc (fun r_3 u t H1 locs ht hvm hw hB hz1 hk1 hS => ?_)
      obtain ⟨hP1, hD1⟩ := hB
      rw [ht] at hP1
      obtain ⟨hP, hD⟩ := va_join (wr := []) (w1 := [(h0, .inr (10, [.ref (a 0), .ref (a 1), .ref (a 2), .ref (a 3), .ref (a 4), .ref (a 5), .ref (a 6), .ref (a 7), .ref (a 8), .ref (a 9), .ref (a 10), .ref (a 11), .ref (a 12), .ref (a 13), .ref (a 14), .ref (a 15), .ref (a 16), .ref (a 17), .ref (a 18), .ref (a 19), .int 0, .int 0, .int tk, .int 0, .int 0, .ref (a 25), .ref (a 26), .ref (a 27), .ref (a 28), .ref (a 29), .ref (a 30), .ref (a 31), .ref (a 32), .int 0, .ref (a 34), .ref (a 35), .ref (a 36), .ref (a 37), .int 0, .int (-1), .ref (a 40), .ref (a 41), .ref (a 42), .ref (a 43), .ref (a 44), .int 0]))]) hP hD [0] [] rfl rfl (by decide) (by decide) hk1 hFc hP1 hD1
      generalize H1 = H at hP hS ⊢
      replace hP : va_P (dC, dI) vwCl [(h0, .inr (10, [.ref (a 0), .ref (a 1), .ref (a 2), .ref (a 3), .ref (a 4), .ref (a 5), .ref (a 6), .ref (a 7), .ref (a 8), .ref (a 9), .ref (a 10), .ref (a 11), .ref (a 12), .ref (a 13), .ref (a 14), .ref (a 15), .ref (a 16), .ref (a 17), .ref (a 18), .ref (a 19), .int 0, .int 0, .int tk, .int 0, .int 0, .ref (a 25), .ref (a 26), .ref (a 27), .ref (a 28), .ref (a 29), .ref (a 30), .ref (a 31), .ref (a 32), .int 0, .ref (a 34), .ref (a 35), .ref (a 36), .ref (a 37), .int 0, .int (-1), .ref (a 40), .ref (a 41), .ref (a 42), .ref (a 43), .ref (a 44), .int 0]))] H := hP
      replace hD : va_D A [(h0, .inr (10, [.ref (a 0), .ref (a 1), .ref (a 2), .ref (a 3), .ref (a 4), .ref (a 5), .ref (a 6), .ref (a 7), .ref (a 8), .ref (a 9), .ref (a 10), .ref (a 11), .ref (a 12), .ref (a 13), .ref (a 14), .ref (a 15), .ref (a 16), .ref (a 17), .ref (a 18), .ref (a 19), .int 0, .int 0, .int tk, .int 0, .int 0, .ref (a 25), .ref (a 26), .ref (a 27), .ref (a 28), .ref (a 29), .ref (a 30), .ref (a 31), .ref (a 32), .int 0, .ref (a 34), .ref (a 35), .ref (a 36), .ref (a 37), .int 0, .int (-1), .ref (a 40), .ref (a 41), .ref (a 42), .ref (a 43), .ref (a 44), .int 0]))] := hD
      try dsimp only at hw
      subst hw
      refine lv_if_ne (tgt := 19) hx hb dX9_plan_14 (by decide) (fun c9 => absurd (by decide) c9) (fun _ => ?_)
      refine lv_iconst (v := (-1)) hx hb dX9_plan_17 (by decide) ?_
      exact W.iret (v := (-1)) hx hb hr (fun t ht hW => ⟨⟨(-1), (), rfl, rfl, trivial⟩, hS.F ht⟩) hS.2.2 dX9_plan_18
def wq_m_planned : List Cond := [.code yX9_planned cX9_planned 3 (some .int), .fieldLink RX9 258 "ServiceTreeModel" "planned" "I"] ++ (wsX90)
theorem in_m_planned_X9 : ∀ w ∈ wsX90, w ∈ wq_m_planned := fun _ h => List.mem_append_right _ (h)
set_option maxRecDepth 20000 in
theorem wi_m_planned : ∀ w ∈ wq_m_planned, w ∈ lw_tbl := List.forall_mem_append.mpr ⟨(by decide +kernel), inKX9⟩
set_option maxRecDepth 20000 in
theorem wg_m_planned : GoodIn wq_m_planned wq_m_planned := goodIn_sub (fun _ h => h) (by decide +kernel)
set_option maxHeartbeats 4000000 in
set_option maxRecDepth 100000 in
theorem c_m_planned (l : Launch) (dC : Nat → ClassId) (dI : Nat → Nat → Nat) (h0 : Nat) (a : Nat → Nat) (tk : Int32) (p0 : Int32) (p1 : Int32) (sz : Nat) : Met l yX9_planned wq_m_planned ({ frames := 0, cells := 0, slots := 0, locals := 0 }) (va_Pc [.ref h0, .int p0, .int p1] (fun U => U.heap.size = sz ∧ va_P (dC, dI) vwCl [(h0, .inr (10, [.ref (a 0), .ref (a 1), .ref (a 2), .ref (a 3), .ref (a 4), .ref (a 5), .ref (a 6), .ref (a 7), .ref (a 8), .ref (a 9), .ref (a 10), .ref (a 11), .ref (a 12), .ref (a 13), .ref (a 14), .ref (a 15), .ref (a 16), .ref (a 17), .ref (a 18), .ref (a 19), .int 0, .int 0, .int tk, .int 0, .int 0, .ref (a 25), .ref (a 26), .ref (a 27), .ref (a 28), .ref (a 29), .ref (a 30), .ref (a 31), .ref (a 32), .int 0, .ref (a 34), .ref (a 35), .ref (a 36), .ref (a 37), .int 0, .int (-1), .ref (a 40), .ref (a 41), .ref (a 42), .ref (a 43), .ref (a 44), .int 0]))] U.heap ∧ va_K (dC, dI) vwCl [] U ∧ va_D (fun _ => True) [(h0, .inr (10, [.ref (a 0), .ref (a 1), .ref (a 2), .ref (a 3), .ref (a 4), .ref (a 5), .ref (a 6), .ref (a 7), .ref (a 8), .ref (a 9), .ref (a 10), .ref (a 11), .ref (a 12), .ref (a 13), .ref (a 14), .ref (a 15), .ref (a 16), .ref (a 17), .ref (a 18), .ref (a 19), .int 0, .int 0, .int tk, .int 0, .int 0, .ref (a 25), .ref (a 26), .ref (a 27), .ref (a 28), .ref (a 29), .ref (a 30), .ref (a 31), .ref (a 32), .int 0, .ref (a 34), .ref (a 35), .ref (a 36), .ref (a 37), .int 0, .int (-1), .ref (a 40), .ref (a 41), .ref (a 42), .ref (a 43), .ref (a 44), .int 0]))] ∧ pw_N U)) (va_Qi (fun (r : Int32) (_ : Unit) => r = (-1)) (fun (_ : Unit) (t : State) => True) (va_A [(h0, .inr (10, [.ref (a 0), .ref (a 1), .ref (a 2), .ref (a 3), .ref (a 4), .ref (a 5), .ref (a 6), .ref (a 7), .ref (a 8), .ref (a 9), .ref (a 10), .ref (a 11), .ref (a 12), .ref (a 13), .ref (a 14), .ref (a 15), .ref (a 16), .ref (a 17), .ref (a 18), .ref (a 19), .int 0, .int 0, .int tk, .int 0, .int 0, .ref (a 25), .ref (a 26), .ref (a 27), .ref (a 28), .ref (a 29), .ref (a 30), .ref (a 31), .ref (a 32), .int 0, .ref (a 34), .ref (a 35), .ref (a 36), .ref (a 37), .int 0, .int (-1), .ref (a 40), .ref (a 41), .ref (a 42), .ref (a 43), .ref (a 44), .int 0]))] sz)) 0 0 (va_A [(h0, .inr (10, [.ref (a 0), .ref (a 1), .ref (a 2), .ref (a 3), .ref (a 4), .ref (a 5), .ref (a 6), .ref (a 7), .ref (a 8), .ref (a 9), .ref (a 10), .ref (a 11), .ref (a 12), .ref (a 13), .ref (a 14), .ref (a 15), .ref (a 16), .ref (a 17), .ref (a 18), .ref (a 19), .int 0, .int 0, .int tk, .int 0, .int 0, .ref (a 25), .ref (a 26), .ref (a 27), .ref (a 28), .ref (a 29), .ref (a 30), .ref (a 31), .ref (a 32), .int 0, .ref (a 34), .ref (a 35), .ref (a 36), .ref (a 37), .int 0, .int (-1), .ref (a 40), .ref (a 41), .ref (a 42), .ref (a 43), .ref (a 44), .int 0]))] sz) := by
  refine Met.ofW (cc := cX9_planned) (maxL := 3) (ret := (some .int)) (by decide) rfl ?_
  intro p e s m args below meth c s₁ B hml hv
  obtain ⟨rfl, hsz, hP, hK, hD0, hN⟩ := hv
  have hx := B.exec
  have hb := B.bytes
  have hr := B.returns
  have hts := atoms_spec (ws := wq_m_planned) B.pre
  have hown : s.vm.findClass RX9 = some m.cls := findClass_of_methodNamed B.named
  have hlocks := B.notSynchronized
  subst hsz
  have hD := hD0.self (sz := s.heap.size)
  generalize hAe : va_A [(h0, .inr (10, [.ref (a 0), .ref (a 1), .ref (a 2), .ref (a 3), .ref (a 4), .ref (a 5), .ref (a 6), .ref (a 7), .ref (a 8), .ref (a 9), .ref (a 10), .ref (a 11), .ref (a 12), .ref (a 13), .ref (a 14), .ref (a 15), .ref (a 16), .ref (a 17), .ref (a 18), .ref (a 19), .int 0, .int 0, .int tk, .int 0, .int 0, .ref (a 25), .ref (a 26), .ref (a 27), .ref (a 28), .ref (a 29), .ref (a 30), .ref (a 31), .ref (a 32), .int 0, .ref (a 34), .ref (a 35), .ref (a 36), .ref (a 37), .int 0, .int (-1), .ref (a 40), .ref (a 41), .ref (a 42), .ref (a 43), .ref (a 44), .int 0]))] s.heap.size = A at hD ⊢
  have hA : ∀ q : Nat, s.heap.size ≤ q → A q := fun q h => by rw [← hAe]; exact Or.inr h
  have hS : va_S A s.heap s.heap [] := va_S.rf
  have hP : va_P (dC, dI) vwCl [(h0, .inr (10, [.ref (a 0), .ref (a 1), .ref (a 2), .ref (a 3), .ref (a 4), .ref (a 5), .ref (a 6), .ref (a 7), .ref (a 8), .ref (a 9), .ref (a 10), .ref (a 11), .ref (a 12), .ref (a 13), .ref (a 14), .ref (a 15), .ref (a 16), .ref (a 17), .ref (a 18), .ref (a 19), .int 0, .int 0, .int tk, .int 0, .int 0, .ref (a 25), .ref (a 26), .ref (a 27), .ref (a 28), .ref (a 29), .ref (a 30), .ref (a 31), .ref (a 32), .int 0, .ref (a 34), .ref (a 35), .ref (a 36), .ref (a 37), .int 0, .int (-1), .ref (a 40), .ref (a 41), .ref (a 42), .ref (a 43), .ref (a 44), .int 0]))] s.heap := hP
  have hl := lv_entry ([.ref h0, .int p0, .int p1]) (n := 3) (Nat.le_of_ble_eq_true rfl)
  rw [lg_entry_eq]
  generalize (lg_sl ([.ref h0, .int p0, .int p1]) ++ List.replicate (3 - (lg_sl ([.ref h0, .int p0, .int p1])).length) Slot.unset).toArray = ls at hl ⊢
  have hl : lv_has ls 3 [(0, .ref h0), (1, .int p0), (2, .int p1)] := hl
  refine lv_iload_n hx hb dX9_planned_0 rfl (lv_at hl 1 rfl) ?_
  refine lv_if_lt (tgt := 21) hx hb dX9_planned_1 (by decide) (fun c_1 => ?_) (fun c_1 => ?_)
  · refine lv_iconst (v := (-1)) hx hb dX9_planned_21 (by decide) ?_
    exact W.iret (v := (-1)) hx hb hr (fun t ht hW => ⟨⟨(-1), (), rfl, rfl, trivial⟩, hS.F ht⟩) hS.2.2 dX9_planned_22
  · refine lv_iload_n hx hb dX9_planned_4 rfl (lv_at hl 1 rfl) ?_
    refine lv_aload_n hx hb dX9_planned_5 rfl (lv_at hl 0 rfl) ?_
    refine va_get (D := (dC, dI)) (ci := 10) (v := .int 0) (C := RX9) (T := TX9) (N := 46) hx hb hts in_m_planned_X9 hown hK hP 0 rfl rfl 38 (by decide) (hts (.fieldLink RX9 258 "ServiceTreeModel" "planned" "I") (by decide +kernel)) (fun _ h9 => h9) rfl dX9_planned_6 ?_
    refine lv_icmp_ge (tgt := 21) hx hb dX9_planned_9 (by decide) (fun c_2 => ?_) (fun c_2 => ?_)
    · refine lv_iconst (v := (-1)) hx hb dX9_planned_21 (by decide) ?_
      exact W.iret (v := (-1)) hx hb hr (fun t ht hW => ⟨⟨(-1), (), rfl, rfl, trivial⟩, hS.F ht⟩) hS.2.2 dX9_planned_22
    · exact False.elim (by have k0 := c_1; have k1 := c_2; simp only [p1_le, p1_lt, p1_eq, p1_m6, p1_m1, p1_0, p1_1, p1_2, p1_3, p1_4, p1_5, p1_6, p1_7, p1_8, p1_9, p1_10, p1_11, p1_12, p1_13, p1_14, p1_15, p1_16, p1_17, p1_18, p1_19, p1_20, p1_40, p1_50, p1_200, p1_1000] at k0 k1; omega)
def wq_m_change : List Cond := [.code yX9_change cX9_change 3 (some .int), .fieldLink RX9 132 "ServiceTreeModel" "changes" "I"] ++ (wsX90)
theorem in_m_change_X9 : ∀ w ∈ wsX90, w ∈ wq_m_change := fun _ h => List.mem_append_right _ (h)
set_option maxRecDepth 20000 in
theorem wi_m_change : ∀ w ∈ wq_m_change, w ∈ lw_tbl := List.forall_mem_append.mpr ⟨(by decide +kernel), inKX9⟩
set_option maxRecDepth 20000 in
theorem wg_m_change : GoodIn wq_m_change wq_m_change := goodIn_sub (fun _ h => h) (by decide +kernel)
set_option maxHeartbeats 4000000 in
set_option maxRecDepth 100000 in
theorem c_m_change (l : Launch) (dC : Nat → ClassId) (dI : Nat → Nat → Nat) (h0 : Nat) (a : Nat → Nat) (tk : Int32) (p0 : Int32) (p1 : Int32) (sz : Nat) : Met l yX9_change wq_m_change ({ frames := 0, cells := 0, slots := 0, locals := 0 }) (va_Pc [.ref h0, .int p0, .int p1] (fun U => U.heap.size = sz ∧ va_P (dC, dI) vwCl [(h0, .inr (10, [.ref (a 0), .ref (a 1), .ref (a 2), .ref (a 3), .ref (a 4), .ref (a 5), .ref (a 6), .ref (a 7), .ref (a 8), .ref (a 9), .ref (a 10), .ref (a 11), .ref (a 12), .ref (a 13), .ref (a 14), .ref (a 15), .ref (a 16), .ref (a 17), .ref (a 18), .ref (a 19), .int 0, .int 0, .int tk, .int 0, .int 0, .ref (a 25), .ref (a 26), .ref (a 27), .ref (a 28), .ref (a 29), .ref (a 30), .ref (a 31), .ref (a 32), .int 0, .ref (a 34), .ref (a 35), .ref (a 36), .ref (a 37), .int 0, .int (-1), .ref (a 40), .ref (a 41), .ref (a 42), .ref (a 43), .ref (a 44), .int 0]))] U.heap ∧ va_K (dC, dI) vwCl [] U ∧ va_D (fun _ => True) [(h0, .inr (10, [.ref (a 0), .ref (a 1), .ref (a 2), .ref (a 3), .ref (a 4), .ref (a 5), .ref (a 6), .ref (a 7), .ref (a 8), .ref (a 9), .ref (a 10), .ref (a 11), .ref (a 12), .ref (a 13), .ref (a 14), .ref (a 15), .ref (a 16), .ref (a 17), .ref (a 18), .ref (a 19), .int 0, .int 0, .int tk, .int 0, .int 0, .ref (a 25), .ref (a 26), .ref (a 27), .ref (a 28), .ref (a 29), .ref (a 30), .ref (a 31), .ref (a 32), .int 0, .ref (a 34), .ref (a 35), .ref (a 36), .ref (a 37), .int 0, .int (-1), .ref (a 40), .ref (a 41), .ref (a 42), .ref (a 43), .ref (a 44), .int 0]))] ∧ pw_N U)) (va_Qi (fun (r : Int32) (_ : Unit) => r = (-1)) (fun (_ : Unit) (t : State) => True) (va_A [(h0, .inr (10, [.ref (a 0), .ref (a 1), .ref (a 2), .ref (a 3), .ref (a 4), .ref (a 5), .ref (a 6), .ref (a 7), .ref (a 8), .ref (a 9), .ref (a 10), .ref (a 11), .ref (a 12), .ref (a 13), .ref (a 14), .ref (a 15), .ref (a 16), .ref (a 17), .ref (a 18), .ref (a 19), .int 0, .int 0, .int tk, .int 0, .int 0, .ref (a 25), .ref (a 26), .ref (a 27), .ref (a 28), .ref (a 29), .ref (a 30), .ref (a 31), .ref (a 32), .int 0, .ref (a 34), .ref (a 35), .ref (a 36), .ref (a 37), .int 0, .int (-1), .ref (a 40), .ref (a 41), .ref (a 42), .ref (a 43), .ref (a 44), .int 0]))] sz)) 0 0 (va_A [(h0, .inr (10, [.ref (a 0), .ref (a 1), .ref (a 2), .ref (a 3), .ref (a 4), .ref (a 5), .ref (a 6), .ref (a 7), .ref (a 8), .ref (a 9), .ref (a 10), .ref (a 11), .ref (a 12), .ref (a 13), .ref (a 14), .ref (a 15), .ref (a 16), .ref (a 17), .ref (a 18), .ref (a 19), .int 0, .int 0, .int tk, .int 0, .int 0, .ref (a 25), .ref (a 26), .ref (a 27), .ref (a 28), .ref (a 29), .ref (a 30), .ref (a 31), .ref (a 32), .int 0, .ref (a 34), .ref (a 35), .ref (a 36), .ref (a 37), .int 0, .int (-1), .ref (a 40), .ref (a 41), .ref (a 42), .ref (a 43), .ref (a 44), .int 0]))] sz) := by
  refine Met.ofW (cc := cX9_change) (maxL := 3) (ret := (some .int)) (by decide) rfl ?_
  intro p e s m args below meth c s₁ B hml hv
  obtain ⟨rfl, hsz, hP, hK, hD0, hN⟩ := hv
  have hx := B.exec
  have hb := B.bytes
  have hr := B.returns
  have hts := atoms_spec (ws := wq_m_change) B.pre
  have hown : s.vm.findClass RX9 = some m.cls := findClass_of_methodNamed B.named
  have hlocks := B.notSynchronized
  subst hsz
  have hD := hD0.self (sz := s.heap.size)
  generalize hAe : va_A [(h0, .inr (10, [.ref (a 0), .ref (a 1), .ref (a 2), .ref (a 3), .ref (a 4), .ref (a 5), .ref (a 6), .ref (a 7), .ref (a 8), .ref (a 9), .ref (a 10), .ref (a 11), .ref (a 12), .ref (a 13), .ref (a 14), .ref (a 15), .ref (a 16), .ref (a 17), .ref (a 18), .ref (a 19), .int 0, .int 0, .int tk, .int 0, .int 0, .ref (a 25), .ref (a 26), .ref (a 27), .ref (a 28), .ref (a 29), .ref (a 30), .ref (a 31), .ref (a 32), .int 0, .ref (a 34), .ref (a 35), .ref (a 36), .ref (a 37), .int 0, .int (-1), .ref (a 40), .ref (a 41), .ref (a 42), .ref (a 43), .ref (a 44), .int 0]))] s.heap.size = A at hD ⊢
  have hA : ∀ q : Nat, s.heap.size ≤ q → A q := fun q h => by rw [← hAe]; exact Or.inr h
  have hS : va_S A s.heap s.heap [] := va_S.rf
  have hP : va_P (dC, dI) vwCl [(h0, .inr (10, [.ref (a 0), .ref (a 1), .ref (a 2), .ref (a 3), .ref (a 4), .ref (a 5), .ref (a 6), .ref (a 7), .ref (a 8), .ref (a 9), .ref (a 10), .ref (a 11), .ref (a 12), .ref (a 13), .ref (a 14), .ref (a 15), .ref (a 16), .ref (a 17), .ref (a 18), .ref (a 19), .int 0, .int 0, .int tk, .int 0, .int 0, .ref (a 25), .ref (a 26), .ref (a 27), .ref (a 28), .ref (a 29), .ref (a 30), .ref (a 31), .ref (a 32), .int 0, .ref (a 34), .ref (a 35), .ref (a 36), .ref (a 37), .int 0, .int (-1), .ref (a 40), .ref (a 41), .ref (a 42), .ref (a 43), .ref (a 44), .int 0]))] s.heap := hP
  have hl := lv_entry ([.ref h0, .int p0, .int p1]) (n := 3) (Nat.le_of_ble_eq_true rfl)
  rw [lg_entry_eq]
  generalize (lg_sl ([.ref h0, .int p0, .int p1]) ++ List.replicate (3 - (lg_sl ([.ref h0, .int p0, .int p1])).length) Slot.unset).toArray = ls at hl ⊢
  have hl : lv_has ls 3 [(0, .ref h0), (1, .int p0), (2, .int p1)] := hl
  refine lv_iload_n hx hb dX9_change_0 rfl (lv_at hl 1 rfl) ?_
  refine lv_if_lt (tgt := 33) hx hb dX9_change_1 (by decide) (fun c_1 => ?_) (fun c_1 => ?_)
  · refine lv_iconst (v := (-1)) hx hb dX9_change_33 (by decide) ?_
    exact W.iret (v := (-1)) hx hb hr (fun t ht hW => ⟨⟨(-1), (), rfl, rfl, trivial⟩, hS.F ht⟩) hS.2.2 dX9_change_34
  · refine lv_iload_n hx hb dX9_change_4 rfl (lv_at hl 1 rfl) ?_
    refine lv_aload_n hx hb dX9_change_5 rfl (lv_at hl 0 rfl) ?_
    refine va_get (D := (dC, dI)) (ci := 10) (v := .int 0) (C := RX9) (T := TX9) (N := 46) hx hb hts in_m_change_X9 hown hK hP 0 rfl rfl 45 (by decide) (hts (.fieldLink RX9 132 "ServiceTreeModel" "changes" "I") (by decide +kernel)) (fun _ h9 => h9) rfl dX9_change_6 ?_
    refine lv_icmp_ge (tgt := 33) hx hb dX9_change_9 (by decide) (fun c_2 => ?_) (fun c_2 => ?_)
    · refine lv_iconst (v := (-1)) hx hb dX9_change_33 (by decide) ?_
      exact W.iret (v := (-1)) hx hb hr (fun t ht hW => ⟨⟨(-1), (), rfl, rfl, trivial⟩, hS.F ht⟩) hS.2.2 dX9_change_34
    · exact False.elim (by have k0 := c_1; have k1 := c_2; simp only [p1_le, p1_lt, p1_eq, p1_m6, p1_m1, p1_0, p1_1, p1_2, p1_3, p1_4, p1_5, p1_6, p1_7, p1_8, p1_9, p1_10, p1_11, p1_12, p1_13, p1_14, p1_15, p1_16, p1_17, p1_18, p1_19, p1_20, p1_40, p1_50, p1_200, p1_1000] at k0 k1; omega)
def wq_m_quick : List Cond := [.code yX9_quick cX9_quick 1 (some .int), .fieldLink RX9 107 "ServiceTreeModel" "quick" "I"] ++ (wsX90)
theorem in_m_quick_X9 : ∀ w ∈ wsX90, w ∈ wq_m_quick := fun _ h => List.mem_append_right _ (h)
set_option maxRecDepth 20000 in
theorem wi_m_quick : ∀ w ∈ wq_m_quick, w ∈ lw_tbl := List.forall_mem_append.mpr ⟨(by decide +kernel), inKX9⟩
set_option maxRecDepth 20000 in
theorem wg_m_quick : GoodIn wq_m_quick wq_m_quick := goodIn_sub (fun _ h => h) (by decide +kernel)
set_option maxHeartbeats 4000000 in
set_option maxRecDepth 100000 in
theorem c_m_quick (l : Launch) (dC : Nat → ClassId) (dI : Nat → Nat → Nat) (h0 : Nat) (a : Nat → Nat) (tk : Int32) (sz : Nat) : Met l yX9_quick wq_m_quick ({ frames := 0, cells := 0, slots := 0, locals := 0 }) (va_Pc [.ref h0] (fun U => U.heap.size = sz ∧ va_P (dC, dI) vwCl [(h0, .inr (10, [.ref (a 0), .ref (a 1), .ref (a 2), .ref (a 3), .ref (a 4), .ref (a 5), .ref (a 6), .ref (a 7), .ref (a 8), .ref (a 9), .ref (a 10), .ref (a 11), .ref (a 12), .ref (a 13), .ref (a 14), .ref (a 15), .ref (a 16), .ref (a 17), .ref (a 18), .ref (a 19), .int 0, .int 0, .int tk, .int 0, .int 0, .ref (a 25), .ref (a 26), .ref (a 27), .ref (a 28), .ref (a 29), .ref (a 30), .ref (a 31), .ref (a 32), .int 0, .ref (a 34), .ref (a 35), .ref (a 36), .ref (a 37), .int 0, .int (-1), .ref (a 40), .ref (a 41), .ref (a 42), .ref (a 43), .ref (a 44), .int 0]))] U.heap ∧ va_K (dC, dI) vwCl [] U ∧ va_D (fun _ => True) [(h0, .inr (10, [.ref (a 0), .ref (a 1), .ref (a 2), .ref (a 3), .ref (a 4), .ref (a 5), .ref (a 6), .ref (a 7), .ref (a 8), .ref (a 9), .ref (a 10), .ref (a 11), .ref (a 12), .ref (a 13), .ref (a 14), .ref (a 15), .ref (a 16), .ref (a 17), .ref (a 18), .ref (a 19), .int 0, .int 0, .int tk, .int 0, .int 0, .ref (a 25), .ref (a 26), .ref (a 27), .ref (a 28), .ref (a 29), .ref (a 30), .ref (a 31), .ref (a 32), .int 0, .ref (a 34), .ref (a 35), .ref (a 36), .ref (a 37), .int 0, .int (-1), .ref (a 40), .ref (a 41), .ref (a 42), .ref (a 43), .ref (a 44), .int 0]))] ∧ pw_N U)) (va_Qi (fun (r : Int32) (_ : Unit) => r = (-1)) (fun (_ : Unit) (t : State) => True) (va_A [(h0, .inr (10, [.ref (a 0), .ref (a 1), .ref (a 2), .ref (a 3), .ref (a 4), .ref (a 5), .ref (a 6), .ref (a 7), .ref (a 8), .ref (a 9), .ref (a 10), .ref (a 11), .ref (a 12), .ref (a 13), .ref (a 14), .ref (a 15), .ref (a 16), .ref (a 17), .ref (a 18), .ref (a 19), .int 0, .int 0, .int tk, .int 0, .int 0, .ref (a 25), .ref (a 26), .ref (a 27), .ref (a 28), .ref (a 29), .ref (a 30), .ref (a 31), .ref (a 32), .int 0, .ref (a 34), .ref (a 35), .ref (a 36), .ref (a 37), .int 0, .int (-1), .ref (a 40), .ref (a 41), .ref (a 42), .ref (a 43), .ref (a 44), .int 0]))] sz)) 0 0 (va_A [(h0, .inr (10, [.ref (a 0), .ref (a 1), .ref (a 2), .ref (a 3), .ref (a 4), .ref (a 5), .ref (a 6), .ref (a 7), .ref (a 8), .ref (a 9), .ref (a 10), .ref (a 11), .ref (a 12), .ref (a 13), .ref (a 14), .ref (a 15), .ref (a 16), .ref (a 17), .ref (a 18), .ref (a 19), .int 0, .int 0, .int tk, .int 0, .int 0, .ref (a 25), .ref (a 26), .ref (a 27), .ref (a 28), .ref (a 29), .ref (a 30), .ref (a 31), .ref (a 32), .int 0, .ref (a 34), .ref (a 35), .ref (a 36), .ref (a 37), .int 0, .int (-1), .ref (a 40), .ref (a 41), .ref (a 42), .ref (a 43), .ref (a 44), .int 0]))] sz) := by
  refine Met.ofW (cc := cX9_quick) (maxL := 1) (ret := (some .int)) (by decide) rfl ?_
  intro p e s m args below meth c s₁ B hml hv
  obtain ⟨rfl, hsz, hP, hK, hD0, hN⟩ := hv
  have hx := B.exec
  have hb := B.bytes
  have hr := B.returns
  have hts := atoms_spec (ws := wq_m_quick) B.pre
  have hown : s.vm.findClass RX9 = some m.cls := findClass_of_methodNamed B.named
  have hlocks := B.notSynchronized
  subst hsz
  have hD := hD0.self (sz := s.heap.size)
  generalize hAe : va_A [(h0, .inr (10, [.ref (a 0), .ref (a 1), .ref (a 2), .ref (a 3), .ref (a 4), .ref (a 5), .ref (a 6), .ref (a 7), .ref (a 8), .ref (a 9), .ref (a 10), .ref (a 11), .ref (a 12), .ref (a 13), .ref (a 14), .ref (a 15), .ref (a 16), .ref (a 17), .ref (a 18), .ref (a 19), .int 0, .int 0, .int tk, .int 0, .int 0, .ref (a 25), .ref (a 26), .ref (a 27), .ref (a 28), .ref (a 29), .ref (a 30), .ref (a 31), .ref (a 32), .int 0, .ref (a 34), .ref (a 35), .ref (a 36), .ref (a 37), .int 0, .int (-1), .ref (a 40), .ref (a 41), .ref (a 42), .ref (a 43), .ref (a 44), .int 0]))] s.heap.size = A at hD ⊢
  have hA : ∀ q : Nat, s.heap.size ≤ q → A q := fun q h => by rw [← hAe]; exact Or.inr h
  have hS : va_S A s.heap s.heap [] := va_S.rf
  have hP : va_P (dC, dI) vwCl [(h0, .inr (10, [.ref (a 0), .ref (a 1), .ref (a 2), .ref (a 3), .ref (a 4), .ref (a 5), .ref (a 6), .ref (a 7), .ref (a 8), .ref (a 9), .ref (a 10), .ref (a 11), .ref (a 12), .ref (a 13), .ref (a 14), .ref (a 15), .ref (a 16), .ref (a 17), .ref (a 18), .ref (a 19), .int 0, .int 0, .int tk, .int 0, .int 0, .ref (a 25), .ref (a 26), .ref (a 27), .ref (a 28), .ref (a 29), .ref (a 30), .ref (a 31), .ref (a 32), .int 0, .ref (a 34), .ref (a 35), .ref (a 36), .ref (a 37), .int 0, .int (-1), .ref (a 40), .ref (a 41), .ref (a 42), .ref (a 43), .ref (a 44), .int 0]))] s.heap := hP
  have hl := lv_entry ([.ref h0]) (n := 1) (Nat.le_of_ble_eq_true rfl)
  rw [lg_entry_eq]
  generalize (lg_sl ([.ref h0]) ++ List.replicate (1 - (lg_sl ([.ref h0])).length) Slot.unset).toArray = ls at hl ⊢
  have hl : lv_has ls 1 [(0, .ref h0)] := hl
  refine lv_aload_n hx hb dX9_quick_0 rfl (lv_at hl 0 rfl) ?_
  refine va_get (D := (dC, dI)) (ci := 10) (v := .int (-1)) (C := RX9) (T := TX9) (N := 46) hx hb hts in_m_quick_X9 hown hK hP 0 rfl rfl 39 (by decide) (hts (.fieldLink RX9 107 "ServiceTreeModel" "quick" "I") (by decide +kernel)) (fun _ h9 => h9) rfl dX9_quick_1 ?_
  exact W.iret (v := (-1)) hx hb hr (fun t ht hW => ⟨⟨(-1), (), rfl, rfl, trivial⟩, hS.F ht⟩) hS.2.2 dX9_quick_4
def wq_m_ring : List Cond := [.code yX9_ring cX9_ring 1 (some .int), .fieldLink RX9 197 "ServiceTreeModel" "ring" "I"] ++ (wsX90)
theorem in_m_ring_X9 : ∀ w ∈ wsX90, w ∈ wq_m_ring := fun _ h => List.mem_append_right _ (h)
set_option maxRecDepth 20000 in
theorem wi_m_ring : ∀ w ∈ wq_m_ring, w ∈ lw_tbl := List.forall_mem_append.mpr ⟨(by decide +kernel), inKX9⟩
set_option maxRecDepth 20000 in
theorem wg_m_ring : GoodIn wq_m_ring wq_m_ring := goodIn_sub (fun _ h => h) (by decide +kernel)
set_option maxHeartbeats 4000000 in
set_option maxRecDepth 100000 in
theorem c_m_ring (l : Launch) (dC : Nat → ClassId) (dI : Nat → Nat → Nat) (h0 : Nat) (a : Nat → Nat) (tk : Int32) (sz : Nat) : Met l yX9_ring wq_m_ring ({ frames := 0, cells := 0, slots := 0, locals := 0 }) (va_Pc [.ref h0] (fun U => U.heap.size = sz ∧ va_P (dC, dI) vwCl [(h0, .inr (10, [.ref (a 0), .ref (a 1), .ref (a 2), .ref (a 3), .ref (a 4), .ref (a 5), .ref (a 6), .ref (a 7), .ref (a 8), .ref (a 9), .ref (a 10), .ref (a 11), .ref (a 12), .ref (a 13), .ref (a 14), .ref (a 15), .ref (a 16), .ref (a 17), .ref (a 18), .ref (a 19), .int 0, .int 0, .int tk, .int 0, .int 0, .ref (a 25), .ref (a 26), .ref (a 27), .ref (a 28), .ref (a 29), .ref (a 30), .ref (a 31), .ref (a 32), .int 0, .ref (a 34), .ref (a 35), .ref (a 36), .ref (a 37), .int 0, .int (-1), .ref (a 40), .ref (a 41), .ref (a 42), .ref (a 43), .ref (a 44), .int 0]))] U.heap ∧ va_K (dC, dI) vwCl [] U ∧ va_D (fun _ => True) [(h0, .inr (10, [.ref (a 0), .ref (a 1), .ref (a 2), .ref (a 3), .ref (a 4), .ref (a 5), .ref (a 6), .ref (a 7), .ref (a 8), .ref (a 9), .ref (a 10), .ref (a 11), .ref (a 12), .ref (a 13), .ref (a 14), .ref (a 15), .ref (a 16), .ref (a 17), .ref (a 18), .ref (a 19), .int 0, .int 0, .int tk, .int 0, .int 0, .ref (a 25), .ref (a 26), .ref (a 27), .ref (a 28), .ref (a 29), .ref (a 30), .ref (a 31), .ref (a 32), .int 0, .ref (a 34), .ref (a 35), .ref (a 36), .ref (a 37), .int 0, .int (-1), .ref (a 40), .ref (a 41), .ref (a 42), .ref (a 43), .ref (a 44), .int 0]))] ∧ pw_N U)) (va_Qi (fun (r : Int32) (_ : Unit) => r = 0) (fun (_ : Unit) (t : State) => True) (va_A [(h0, .inr (10, [.ref (a 0), .ref (a 1), .ref (a 2), .ref (a 3), .ref (a 4), .ref (a 5), .ref (a 6), .ref (a 7), .ref (a 8), .ref (a 9), .ref (a 10), .ref (a 11), .ref (a 12), .ref (a 13), .ref (a 14), .ref (a 15), .ref (a 16), .ref (a 17), .ref (a 18), .ref (a 19), .int 0, .int 0, .int tk, .int 0, .int 0, .ref (a 25), .ref (a 26), .ref (a 27), .ref (a 28), .ref (a 29), .ref (a 30), .ref (a 31), .ref (a 32), .int 0, .ref (a 34), .ref (a 35), .ref (a 36), .ref (a 37), .int 0, .int (-1), .ref (a 40), .ref (a 41), .ref (a 42), .ref (a 43), .ref (a 44), .int 0]))] sz)) 0 0 (va_A [(h0, .inr (10, [.ref (a 0), .ref (a 1), .ref (a 2), .ref (a 3), .ref (a 4), .ref (a 5), .ref (a 6), .ref (a 7), .ref (a 8), .ref (a 9), .ref (a 10), .ref (a 11), .ref (a 12), .ref (a 13), .ref (a 14), .ref (a 15), .ref (a 16), .ref (a 17), .ref (a 18), .ref (a 19), .int 0, .int 0, .int tk, .int 0, .int 0, .ref (a 25), .ref (a 26), .ref (a 27), .ref (a 28), .ref (a 29), .ref (a 30), .ref (a 31), .ref (a 32), .int 0, .ref (a 34), .ref (a 35), .ref (a 36), .ref (a 37), .int 0, .int (-1), .ref (a 40), .ref (a 41), .ref (a 42), .ref (a 43), .ref (a 44), .int 0]))] sz) := by
  refine Met.ofW (cc := cX9_ring) (maxL := 1) (ret := (some .int)) (by decide) rfl ?_
  intro p e s m args below meth c s₁ B hml hv
  obtain ⟨rfl, hsz, hP, hK, hD0, hN⟩ := hv
  have hx := B.exec
  have hb := B.bytes
  have hr := B.returns
  have hts := atoms_spec (ws := wq_m_ring) B.pre
  have hown : s.vm.findClass RX9 = some m.cls := findClass_of_methodNamed B.named
  have hlocks := B.notSynchronized
  subst hsz
  have hD := hD0.self (sz := s.heap.size)
  generalize hAe : va_A [(h0, .inr (10, [.ref (a 0), .ref (a 1), .ref (a 2), .ref (a 3), .ref (a 4), .ref (a 5), .ref (a 6), .ref (a 7), .ref (a 8), .ref (a 9), .ref (a 10), .ref (a 11), .ref (a 12), .ref (a 13), .ref (a 14), .ref (a 15), .ref (a 16), .ref (a 17), .ref (a 18), .ref (a 19), .int 0, .int 0, .int tk, .int 0, .int 0, .ref (a 25), .ref (a 26), .ref (a 27), .ref (a 28), .ref (a 29), .ref (a 30), .ref (a 31), .ref (a 32), .int 0, .ref (a 34), .ref (a 35), .ref (a 36), .ref (a 37), .int 0, .int (-1), .ref (a 40), .ref (a 41), .ref (a 42), .ref (a 43), .ref (a 44), .int 0]))] s.heap.size = A at hD ⊢
  have hA : ∀ q : Nat, s.heap.size ≤ q → A q := fun q h => by rw [← hAe]; exact Or.inr h
  have hS : va_S A s.heap s.heap [] := va_S.rf
  have hP : va_P (dC, dI) vwCl [(h0, .inr (10, [.ref (a 0), .ref (a 1), .ref (a 2), .ref (a 3), .ref (a 4), .ref (a 5), .ref (a 6), .ref (a 7), .ref (a 8), .ref (a 9), .ref (a 10), .ref (a 11), .ref (a 12), .ref (a 13), .ref (a 14), .ref (a 15), .ref (a 16), .ref (a 17), .ref (a 18), .ref (a 19), .int 0, .int 0, .int tk, .int 0, .int 0, .ref (a 25), .ref (a 26), .ref (a 27), .ref (a 28), .ref (a 29), .ref (a 30), .ref (a 31), .ref (a 32), .int 0, .ref (a 34), .ref (a 35), .ref (a 36), .ref (a 37), .int 0, .int (-1), .ref (a 40), .ref (a 41), .ref (a 42), .ref (a 43), .ref (a 44), .int 0]))] s.heap := hP
  have hl := lv_entry ([.ref h0]) (n := 1) (Nat.le_of_ble_eq_true rfl)
  rw [lg_entry_eq]
  generalize (lg_sl ([.ref h0]) ++ List.replicate (1 - (lg_sl ([.ref h0])).length) Slot.unset).toArray = ls at hl ⊢
  have hl : lv_has ls 1 [(0, .ref h0)] := hl
  refine lv_aload_n hx hb dX9_ring_0 rfl (lv_at hl 0 rfl) ?_
  refine va_get (D := (dC, dI)) (ci := 10) (v := .int 0) (C := RX9) (T := TX9) (N := 46) hx hb hts in_m_ring_X9 hown hK hP 0 rfl rfl 33 (by decide) (hts (.fieldLink RX9 197 "ServiceTreeModel" "ring" "I") (by decide +kernel)) (fun _ h9 => h9) rfl dX9_ring_1 ?_
  exact W.iret (v := 0) hx hb hr (fun t ht hW => ⟨⟨0, (), rfl, rfl, trivial⟩, hS.F ht⟩) hS.2.2 dX9_ring_4
def wq_m_changes : List Cond := [.code yX9_changes cX9_changes 1 (some .int), .fieldLink RX9 132 "ServiceTreeModel" "changes" "I"] ++ (wsX90)
theorem in_m_changes_X9 : ∀ w ∈ wsX90, w ∈ wq_m_changes := fun _ h => List.mem_append_right _ (h)
set_option maxRecDepth 20000 in
theorem wi_m_changes : ∀ w ∈ wq_m_changes, w ∈ lw_tbl := List.forall_mem_append.mpr ⟨(by decide +kernel), inKX9⟩
set_option maxRecDepth 20000 in
theorem wg_m_changes : GoodIn wq_m_changes wq_m_changes := goodIn_sub (fun _ h => h) (by decide +kernel)
set_option maxHeartbeats 4000000 in
set_option maxRecDepth 100000 in
theorem c_m_changes (l : Launch) (dC : Nat → ClassId) (dI : Nat → Nat → Nat) (h0 : Nat) (a : Nat → Nat) (tk : Int32) (sz : Nat) : Met l yX9_changes wq_m_changes ({ frames := 0, cells := 0, slots := 0, locals := 0 }) (va_Pc [.ref h0] (fun U => U.heap.size = sz ∧ va_P (dC, dI) vwCl [(h0, .inr (10, [.ref (a 0), .ref (a 1), .ref (a 2), .ref (a 3), .ref (a 4), .ref (a 5), .ref (a 6), .ref (a 7), .ref (a 8), .ref (a 9), .ref (a 10), .ref (a 11), .ref (a 12), .ref (a 13), .ref (a 14), .ref (a 15), .ref (a 16), .ref (a 17), .ref (a 18), .ref (a 19), .int 0, .int 0, .int tk, .int 0, .int 0, .ref (a 25), .ref (a 26), .ref (a 27), .ref (a 28), .ref (a 29), .ref (a 30), .ref (a 31), .ref (a 32), .int 0, .ref (a 34), .ref (a 35), .ref (a 36), .ref (a 37), .int 0, .int (-1), .ref (a 40), .ref (a 41), .ref (a 42), .ref (a 43), .ref (a 44), .int 0]))] U.heap ∧ va_K (dC, dI) vwCl [] U ∧ va_D (fun _ => True) [(h0, .inr (10, [.ref (a 0), .ref (a 1), .ref (a 2), .ref (a 3), .ref (a 4), .ref (a 5), .ref (a 6), .ref (a 7), .ref (a 8), .ref (a 9), .ref (a 10), .ref (a 11), .ref (a 12), .ref (a 13), .ref (a 14), .ref (a 15), .ref (a 16), .ref (a 17), .ref (a 18), .ref (a 19), .int 0, .int 0, .int tk, .int 0, .int 0, .ref (a 25), .ref (a 26), .ref (a 27), .ref (a 28), .ref (a 29), .ref (a 30), .ref (a 31), .ref (a 32), .int 0, .ref (a 34), .ref (a 35), .ref (a 36), .ref (a 37), .int 0, .int (-1), .ref (a 40), .ref (a 41), .ref (a 42), .ref (a 43), .ref (a 44), .int 0]))] ∧ pw_N U)) (va_Qi (fun (r : Int32) (_ : Unit) => r = 0) (fun (_ : Unit) (t : State) => True) (va_A [(h0, .inr (10, [.ref (a 0), .ref (a 1), .ref (a 2), .ref (a 3), .ref (a 4), .ref (a 5), .ref (a 6), .ref (a 7), .ref (a 8), .ref (a 9), .ref (a 10), .ref (a 11), .ref (a 12), .ref (a 13), .ref (a 14), .ref (a 15), .ref (a 16), .ref (a 17), .ref (a 18), .ref (a 19), .int 0, .int 0, .int tk, .int 0, .int 0, .ref (a 25), .ref (a 26), .ref (a 27), .ref (a 28), .ref (a 29), .ref (a 30), .ref (a 31), .ref (a 32), .int 0, .ref (a 34), .ref (a 35), .ref (a 36), .ref (a 37), .int 0, .int (-1), .ref (a 40), .ref (a 41), .ref (a 42), .ref (a 43), .ref (a 44), .int 0]))] sz)) 0 0 (va_A [(h0, .inr (10, [.ref (a 0), .ref (a 1), .ref (a 2), .ref (a 3), .ref (a 4), .ref (a 5), .ref (a 6), .ref (a 7), .ref (a 8), .ref (a 9), .ref (a 10), .ref (a 11), .ref (a 12), .ref (a 13), .ref (a 14), .ref (a 15), .ref (a 16), .ref (a 17), .ref (a 18), .ref (a 19), .int 0, .int 0, .int tk, .int 0, .int 0, .ref (a 25), .ref (a 26), .ref (a 27), .ref (a 28), .ref (a 29), .ref (a 30), .ref (a 31), .ref (a 32), .int 0, .ref (a 34), .ref (a 35), .ref (a 36), .ref (a 37), .int 0, .int (-1), .ref (a 40), .ref (a 41), .ref (a 42), .ref (a 43), .ref (a 44), .int 0]))] sz) := by
  refine Met.ofW (cc := cX9_changes) (maxL := 1) (ret := (some .int)) (by decide) rfl ?_
  intro p e s m args below meth c s₁ B hml hv
  obtain ⟨rfl, hsz, hP, hK, hD0, hN⟩ := hv
  have hx := B.exec
  have hb := B.bytes
  have hr := B.returns
  have hts := atoms_spec (ws := wq_m_changes) B.pre
  have hown : s.vm.findClass RX9 = some m.cls := findClass_of_methodNamed B.named
  have hlocks := B.notSynchronized
  subst hsz
  have hD := hD0.self (sz := s.heap.size)
  generalize hAe : va_A [(h0, .inr (10, [.ref (a 0), .ref (a 1), .ref (a 2), .ref (a 3), .ref (a 4), .ref (a 5), .ref (a 6), .ref (a 7), .ref (a 8), .ref (a 9), .ref (a 10), .ref (a 11), .ref (a 12), .ref (a 13), .ref (a 14), .ref (a 15), .ref (a 16), .ref (a 17), .ref (a 18), .ref (a 19), .int 0, .int 0, .int tk, .int 0, .int 0, .ref (a 25), .ref (a 26), .ref (a 27), .ref (a 28), .ref (a 29), .ref (a 30), .ref (a 31), .ref (a 32), .int 0, .ref (a 34), .ref (a 35), .ref (a 36), .ref (a 37), .int 0, .int (-1), .ref (a 40), .ref (a 41), .ref (a 42), .ref (a 43), .ref (a 44), .int 0]))] s.heap.size = A at hD ⊢
  have hA : ∀ q : Nat, s.heap.size ≤ q → A q := fun q h => by rw [← hAe]; exact Or.inr h
  have hS : va_S A s.heap s.heap [] := va_S.rf
  have hP : va_P (dC, dI) vwCl [(h0, .inr (10, [.ref (a 0), .ref (a 1), .ref (a 2), .ref (a 3), .ref (a 4), .ref (a 5), .ref (a 6), .ref (a 7), .ref (a 8), .ref (a 9), .ref (a 10), .ref (a 11), .ref (a 12), .ref (a 13), .ref (a 14), .ref (a 15), .ref (a 16), .ref (a 17), .ref (a 18), .ref (a 19), .int 0, .int 0, .int tk, .int 0, .int 0, .ref (a 25), .ref (a 26), .ref (a 27), .ref (a 28), .ref (a 29), .ref (a 30), .ref (a 31), .ref (a 32), .int 0, .ref (a 34), .ref (a 35), .ref (a 36), .ref (a 37), .int 0, .int (-1), .ref (a 40), .ref (a 41), .ref (a 42), .ref (a 43), .ref (a 44), .int 0]))] s.heap := hP
  have hl := lv_entry ([.ref h0]) (n := 1) (Nat.le_of_ble_eq_true rfl)
  rw [lg_entry_eq]
  generalize (lg_sl ([.ref h0]) ++ List.replicate (1 - (lg_sl ([.ref h0])).length) Slot.unset).toArray = ls at hl ⊢
  have hl : lv_has ls 1 [(0, .ref h0)] := hl
  refine lv_aload_n hx hb dX9_changes_0 rfl (lv_at hl 0 rfl) ?_
  refine va_get (D := (dC, dI)) (ci := 10) (v := .int 0) (C := RX9) (T := TX9) (N := 46) hx hb hts in_m_changes_X9 hown hK hP 0 rfl rfl 45 (by decide) (hts (.fieldLink RX9 132 "ServiceTreeModel" "changes" "I") (by decide +kernel)) (fun _ h9 => h9) rfl dX9_changes_1 ?_
  exact W.iret (v := 0) hx hb hr (fun t ht hW => ⟨⟨0, (), rfl, rfl, trivial⟩, hS.F ht⟩) hS.2.2 dX9_changes_4
def wq_m_check : List Cond := [.code yX9_check cX9_check 5 (some .int), .fieldLink RX9 126 "ServiceTreeModel" "services" "I"] ++ (wsX90)
theorem in_m_check_X9 : ∀ w ∈ wsX90, w ∈ wq_m_check := fun _ h => List.mem_append_right _ (h)
set_option maxRecDepth 20000 in
theorem wi_m_check : ∀ w ∈ wq_m_check, w ∈ lw_tbl := List.forall_mem_append.mpr ⟨(by decide +kernel), inKX9⟩
set_option maxRecDepth 20000 in
theorem wg_m_check : GoodIn wq_m_check wq_m_check := goodIn_sub (fun _ h => h) (by decide +kernel)
set_option maxHeartbeats 4000000 in
set_option maxRecDepth 100000 in
theorem c_m_check (l : Launch) (dC : Nat → ClassId) (dI : Nat → Nat → Nat) (h0 : Nat) (a : Nat → Nat) (tk : Int32) (sz : Nat) : Met l yX9_check wq_m_check ({ frames := 0, cells := 0, slots := 0, locals := 0 }) (va_Pc [.ref h0] (fun U => U.heap.size = sz ∧ va_P (dC, dI) vwCl [(h0, .inr (10, [.ref (a 0), .ref (a 1), .ref (a 2), .ref (a 3), .ref (a 4), .ref (a 5), .ref (a 6), .ref (a 7), .ref (a 8), .ref (a 9), .ref (a 10), .ref (a 11), .ref (a 12), .ref (a 13), .ref (a 14), .ref (a 15), .ref (a 16), .ref (a 17), .ref (a 18), .ref (a 19), .int 0, .int 0, .int tk, .int 0, .int 0, .ref (a 25), .ref (a 26), .ref (a 27), .ref (a 28), .ref (a 29), .ref (a 30), .ref (a 31), .ref (a 32), .int 0, .ref (a 34), .ref (a 35), .ref (a 36), .ref (a 37), .int 0, .int (-1), .ref (a 40), .ref (a 41), .ref (a 42), .ref (a 43), .ref (a 44), .int 0]))] U.heap ∧ va_K (dC, dI) vwCl [] U ∧ va_D (fun _ => True) [(h0, .inr (10, [.ref (a 0), .ref (a 1), .ref (a 2), .ref (a 3), .ref (a 4), .ref (a 5), .ref (a 6), .ref (a 7), .ref (a 8), .ref (a 9), .ref (a 10), .ref (a 11), .ref (a 12), .ref (a 13), .ref (a 14), .ref (a 15), .ref (a 16), .ref (a 17), .ref (a 18), .ref (a 19), .int 0, .int 0, .int tk, .int 0, .int 0, .ref (a 25), .ref (a 26), .ref (a 27), .ref (a 28), .ref (a 29), .ref (a 30), .ref (a 31), .ref (a 32), .int 0, .ref (a 34), .ref (a 35), .ref (a 36), .ref (a 37), .int 0, .int (-1), .ref (a 40), .ref (a 41), .ref (a 42), .ref (a 43), .ref (a 44), .int 0]))] ∧ pw_N U)) (va_Qi (fun (r : Int32) (_ : Unit) => r = 0) (fun (_ : Unit) (t : State) => True) (va_A [(h0, .inr (10, [.ref (a 0), .ref (a 1), .ref (a 2), .ref (a 3), .ref (a 4), .ref (a 5), .ref (a 6), .ref (a 7), .ref (a 8), .ref (a 9), .ref (a 10), .ref (a 11), .ref (a 12), .ref (a 13), .ref (a 14), .ref (a 15), .ref (a 16), .ref (a 17), .ref (a 18), .ref (a 19), .int 0, .int 0, .int tk, .int 0, .int 0, .ref (a 25), .ref (a 26), .ref (a 27), .ref (a 28), .ref (a 29), .ref (a 30), .ref (a 31), .ref (a 32), .int 0, .ref (a 34), .ref (a 35), .ref (a 36), .ref (a 37), .int 0, .int (-1), .ref (a 40), .ref (a 41), .ref (a 42), .ref (a 43), .ref (a 44), .int 0]))] sz)) 0 0 (va_A [(h0, .inr (10, [.ref (a 0), .ref (a 1), .ref (a 2), .ref (a 3), .ref (a 4), .ref (a 5), .ref (a 6), .ref (a 7), .ref (a 8), .ref (a 9), .ref (a 10), .ref (a 11), .ref (a 12), .ref (a 13), .ref (a 14), .ref (a 15), .ref (a 16), .ref (a 17), .ref (a 18), .ref (a 19), .int 0, .int 0, .int tk, .int 0, .int 0, .ref (a 25), .ref (a 26), .ref (a 27), .ref (a 28), .ref (a 29), .ref (a 30), .ref (a 31), .ref (a 32), .int 0, .ref (a 34), .ref (a 35), .ref (a 36), .ref (a 37), .int 0, .int (-1), .ref (a 40), .ref (a 41), .ref (a 42), .ref (a 43), .ref (a 44), .int 0]))] sz) := by
  refine Met.ofW (cc := cX9_check) (maxL := 5) (ret := (some .int)) (by decide) rfl ?_
  intro p e s m args below meth c s₁ B hml hv
  obtain ⟨rfl, hsz, hP, hK, hD0, hN⟩ := hv
  have hx := B.exec
  have hb := B.bytes
  have hr := B.returns
  have hts := atoms_spec (ws := wq_m_check) B.pre
  have hown : s.vm.findClass RX9 = some m.cls := findClass_of_methodNamed B.named
  have hlocks := B.notSynchronized
  subst hsz
  have hD := hD0.self (sz := s.heap.size)
  generalize hAe : va_A [(h0, .inr (10, [.ref (a 0), .ref (a 1), .ref (a 2), .ref (a 3), .ref (a 4), .ref (a 5), .ref (a 6), .ref (a 7), .ref (a 8), .ref (a 9), .ref (a 10), .ref (a 11), .ref (a 12), .ref (a 13), .ref (a 14), .ref (a 15), .ref (a 16), .ref (a 17), .ref (a 18), .ref (a 19), .int 0, .int 0, .int tk, .int 0, .int 0, .ref (a 25), .ref (a 26), .ref (a 27), .ref (a 28), .ref (a 29), .ref (a 30), .ref (a 31), .ref (a 32), .int 0, .ref (a 34), .ref (a 35), .ref (a 36), .ref (a 37), .int 0, .int (-1), .ref (a 40), .ref (a 41), .ref (a 42), .ref (a 43), .ref (a 44), .int 0]))] s.heap.size = A at hD ⊢
  have hA : ∀ q : Nat, s.heap.size ≤ q → A q := fun q h => by rw [← hAe]; exact Or.inr h
  have hS : va_S A s.heap s.heap [] := va_S.rf
  have hP : va_P (dC, dI) vwCl [(h0, .inr (10, [.ref (a 0), .ref (a 1), .ref (a 2), .ref (a 3), .ref (a 4), .ref (a 5), .ref (a 6), .ref (a 7), .ref (a 8), .ref (a 9), .ref (a 10), .ref (a 11), .ref (a 12), .ref (a 13), .ref (a 14), .ref (a 15), .ref (a 16), .ref (a 17), .ref (a 18), .ref (a 19), .int 0, .int 0, .int tk, .int 0, .int 0, .ref (a 25), .ref (a 26), .ref (a 27), .ref (a 28), .ref (a 29), .ref (a 30), .ref (a 31), .ref (a 32), .int 0, .ref (a 34), .ref (a 35), .ref (a 36), .ref (a 37), .int 0, .int (-1), .ref (a 40), .ref (a 41), .ref (a 42), .ref (a 43), .ref (a 44), .int 0]))] s.heap := hP
  have hl := lv_entry ([.ref h0]) (n := 5) (Nat.le_of_ble_eq_true rfl)
  rw [lg_entry_eq]
  generalize (lg_sl ([.ref h0]) ++ List.replicate (5 - (lg_sl ([.ref h0])).length) Slot.unset).toArray = ls at hl ⊢
  have hl : lv_has ls 5 [(0, .ref h0)] := hl
  refine lv_iconst (v := 0) hx hb dX9_check_0 (by decide) ?_
  refine lv_istore_n (lv' := [(1, .int 0), (0, .ref h0)]) hx hb dX9_check_1 rfl hl (by decide) rfl (fun ls hl => ?_)
  refine lv_iconst (v := 0) hx hb dX9_check_2 (by decide) ?_
  refine lv_istore_n (lv' := [(2, .int 0), (1, .int 0), (0, .ref h0)]) hx hb dX9_check_3 rfl hl (by decide) rfl (fun ls hl => ?_)
  refine lv_iconst (v := 0) hx hb dX9_check_4 (by decide) ?_
  refine lv_istore_n (lv' := [(3, .int 0), (2, .int 0), (1, .int 0), (0, .ref h0)]) hx hb dX9_check_5 rfl hl (by decide) rfl (fun ls hl => ?_)
  refine lv_iload_n hx hb dX9_check_6 rfl (lv_at hl 0 rfl) ?_
  refine lv_aload_n hx hb dX9_check_7 rfl (lv_at hl 3 rfl) ?_
  refine va_get (D := (dC, dI)) (ci := 10) (v := .int 0) (C := RX9) (T := TX9) (N := 46) hx hb hts in_m_check_X9 hown hK hP 0 rfl rfl 21 (by decide) (hts (.fieldLink RX9 126 "ServiceTreeModel" "services" "I") (by decide +kernel)) (fun _ h9 => h9) rfl dX9_check_8 ?_
  refine lv_icmp_ge (tgt := 139) hx hb dX9_check_11 (by decide) (fun _ => ?_) (fun c9 => absurd (by decide) c9)
  refine lv_iload_n hx hb dX9_check_139 rfl (lv_at hl 2 rfl) ?_
  refine lv_if_eq (tgt := 147) hx hb dX9_check_140 (by decide) (fun _ => ?_) (fun c9 => absurd (by decide) c9)
  refine lv_iconst (v := 0) hx hb dX9_check_147 (by decide) ?_
  refine lv_iload_n hx hb dX9_check_148 rfl (lv_at hl 1 rfl) ?_
  refine lv_if_eq (tgt := 156) hx hb dX9_check_149 (by decide) (fun _ => ?_) (fun c9 => absurd (by decide) c9)
  refine lv_iconst (v := 0) hx hb dX9_check_156 (by decide) ?_
  refine lv_iadd hx hb dX9_check_157 ?_
  refine lv_topi (fun x_1 ex_1 => ?_)
  obtain rfl : x_1 = 0 := ex_1.trans (by decide)
  exact W.iret (v := 0) hx hb hr (fun t ht hW => ⟨⟨0, (), rfl, rfl, trivial⟩, hS.F ht⟩) hS.2.2 dX9_check_158
def wq_m_in : List Cond := [.code yX9_in cX9_in 4 (some .int), .fieldLink RX9 126 "ServiceTreeModel" "services" "I"] ++ (wsX90)
theorem in_m_in_X9 : ∀ w ∈ wsX90, w ∈ wq_m_in := fun _ h => List.mem_append_right _ (h)
set_option maxRecDepth 20000 in
theorem wi_m_in : ∀ w ∈ wq_m_in, w ∈ lw_tbl := List.forall_mem_append.mpr ⟨(by decide +kernel), inKX9⟩
set_option maxRecDepth 20000 in
theorem wg_m_in : GoodIn wq_m_in wq_m_in := goodIn_sub (fun _ h => h) (by decide +kernel)
set_option maxHeartbeats 4000000 in
set_option maxRecDepth 100000 in
theorem c_m_in (l : Launch) (dC : Nat → ClassId) (dI : Nat → Nat → Nat) (h0 : Nat) (a : Nat → Nat) (tk : Int32) (p0 : Int32) (sz : Nat) : Met l yX9_in wq_m_in ({ frames := 0, cells := 0, slots := 0, locals := 0 }) (va_Pc [.ref h0, .int p0] (fun U => U.heap.size = sz ∧ va_P (dC, dI) vwCl [(h0, .inr (10, [.ref (a 0), .ref (a 1), .ref (a 2), .ref (a 3), .ref (a 4), .ref (a 5), .ref (a 6), .ref (a 7), .ref (a 8), .ref (a 9), .ref (a 10), .ref (a 11), .ref (a 12), .ref (a 13), .ref (a 14), .ref (a 15), .ref (a 16), .ref (a 17), .ref (a 18), .ref (a 19), .int 0, .int 0, .int tk, .int 0, .int 0, .ref (a 25), .ref (a 26), .ref (a 27), .ref (a 28), .ref (a 29), .ref (a 30), .ref (a 31), .ref (a 32), .int 0, .ref (a 34), .ref (a 35), .ref (a 36), .ref (a 37), .int 0, .int (-1), .ref (a 40), .ref (a 41), .ref (a 42), .ref (a 43), .ref (a 44), .int 0]))] U.heap ∧ va_K (dC, dI) vwCl [] U ∧ va_D (fun _ => True) [(h0, .inr (10, [.ref (a 0), .ref (a 1), .ref (a 2), .ref (a 3), .ref (a 4), .ref (a 5), .ref (a 6), .ref (a 7), .ref (a 8), .ref (a 9), .ref (a 10), .ref (a 11), .ref (a 12), .ref (a 13), .ref (a 14), .ref (a 15), .ref (a 16), .ref (a 17), .ref (a 18), .ref (a 19), .int 0, .int 0, .int tk, .int 0, .int 0, .ref (a 25), .ref (a 26), .ref (a 27), .ref (a 28), .ref (a 29), .ref (a 30), .ref (a 31), .ref (a 32), .int 0, .ref (a 34), .ref (a 35), .ref (a 36), .ref (a 37), .int 0, .int (-1), .ref (a 40), .ref (a 41), .ref (a 42), .ref (a 43), .ref (a 44), .int 0]))] ∧ pw_N U)) (va_Qi (fun (r : Int32) (_ : Unit) => r = if 0 ≤ p0 ∧ p0 ≤ 5 then 0 else (-1)) (fun (_ : Unit) (t : State) => True) (va_A [(h0, .inr (10, [.ref (a 0), .ref (a 1), .ref (a 2), .ref (a 3), .ref (a 4), .ref (a 5), .ref (a 6), .ref (a 7), .ref (a 8), .ref (a 9), .ref (a 10), .ref (a 11), .ref (a 12), .ref (a 13), .ref (a 14), .ref (a 15), .ref (a 16), .ref (a 17), .ref (a 18), .ref (a 19), .int 0, .int 0, .int tk, .int 0, .int 0, .ref (a 25), .ref (a 26), .ref (a 27), .ref (a 28), .ref (a 29), .ref (a 30), .ref (a 31), .ref (a 32), .int 0, .ref (a 34), .ref (a 35), .ref (a 36), .ref (a 37), .int 0, .int (-1), .ref (a 40), .ref (a 41), .ref (a 42), .ref (a 43), .ref (a 44), .int 0]))] sz)) 0 0 (va_A [(h0, .inr (10, [.ref (a 0), .ref (a 1), .ref (a 2), .ref (a 3), .ref (a 4), .ref (a 5), .ref (a 6), .ref (a 7), .ref (a 8), .ref (a 9), .ref (a 10), .ref (a 11), .ref (a 12), .ref (a 13), .ref (a 14), .ref (a 15), .ref (a 16), .ref (a 17), .ref (a 18), .ref (a 19), .int 0, .int 0, .int tk, .int 0, .int 0, .ref (a 25), .ref (a 26), .ref (a 27), .ref (a 28), .ref (a 29), .ref (a 30), .ref (a 31), .ref (a 32), .int 0, .ref (a 34), .ref (a 35), .ref (a 36), .ref (a 37), .int 0, .int (-1), .ref (a 40), .ref (a 41), .ref (a 42), .ref (a 43), .ref (a 44), .int 0]))] sz) := by
  refine Met.ofW (cc := cX9_in) (maxL := 4) (ret := (some .int)) (by decide) rfl ?_
  intro p e s m args below meth c s₁ B hml hv
  obtain ⟨rfl, hsz, hP, hK, hD0, hN⟩ := hv
  have hx := B.exec
  have hb := B.bytes
  have hr := B.returns
  have hts := atoms_spec (ws := wq_m_in) B.pre
  have hown : s.vm.findClass RX9 = some m.cls := findClass_of_methodNamed B.named
  have hlocks := B.notSynchronized
  subst hsz
  have hD := hD0.self (sz := s.heap.size)
  generalize hAe : va_A [(h0, .inr (10, [.ref (a 0), .ref (a 1), .ref (a 2), .ref (a 3), .ref (a 4), .ref (a 5), .ref (a 6), .ref (a 7), .ref (a 8), .ref (a 9), .ref (a 10), .ref (a 11), .ref (a 12), .ref (a 13), .ref (a 14), .ref (a 15), .ref (a 16), .ref (a 17), .ref (a 18), .ref (a 19), .int 0, .int 0, .int tk, .int 0, .int 0, .ref (a 25), .ref (a 26), .ref (a 27), .ref (a 28), .ref (a 29), .ref (a 30), .ref (a 31), .ref (a 32), .int 0, .ref (a 34), .ref (a 35), .ref (a 36), .ref (a 37), .int 0, .int (-1), .ref (a 40), .ref (a 41), .ref (a 42), .ref (a 43), .ref (a 44), .int 0]))] s.heap.size = A at hD ⊢
  have hA : ∀ q : Nat, s.heap.size ≤ q → A q := fun q h => by rw [← hAe]; exact Or.inr h
  have hS : va_S A s.heap s.heap [] := va_S.rf
  have hP : va_P (dC, dI) vwCl [(h0, .inr (10, [.ref (a 0), .ref (a 1), .ref (a 2), .ref (a 3), .ref (a 4), .ref (a 5), .ref (a 6), .ref (a 7), .ref (a 8), .ref (a 9), .ref (a 10), .ref (a 11), .ref (a 12), .ref (a 13), .ref (a 14), .ref (a 15), .ref (a 16), .ref (a 17), .ref (a 18), .ref (a 19), .int 0, .int 0, .int tk, .int 0, .int 0, .ref (a 25), .ref (a 26), .ref (a 27), .ref (a 28), .ref (a 29), .ref (a 30), .ref (a 31), .ref (a 32), .int 0, .ref (a 34), .ref (a 35), .ref (a 36), .ref (a 37), .int 0, .int (-1), .ref (a 40), .ref (a 41), .ref (a 42), .ref (a 43), .ref (a 44), .int 0]))] s.heap := hP
  have hl := lv_entry ([.ref h0, .int p0]) (n := 4) (Nat.le_of_ble_eq_true rfl)
  rw [lg_entry_eq]
  generalize (lg_sl ([.ref h0, .int p0]) ++ List.replicate (4 - (lg_sl ([.ref h0, .int p0])).length) Slot.unset).toArray = ls at hl ⊢
  have hl : lv_has ls 4 [(0, .ref h0), (1, .int p0)] := hl
  refine lv_iload_n hx hb dX9_in_0 rfl (lv_at hl 1 rfl) ?_
  refine lv_if_lt (tgt := 9) hx hb dX9_in_1 (by decide) (fun c_1 => ?_) (fun c_1 => ?_)
  · refine lv_iconst (v := (-1)) hx hb dX9_in_9 (by decide) ?_
    exact W.iret (v := (-1)) hx hb hr (fun t ht hW => ⟨⟨(-1), (), rfl, (if_neg (by have k0 := c_1; simp only [p1_le, p1_lt, p1_eq, p1_m6, p1_m1, p1_0, p1_1, p1_2, p1_3, p1_4, p1_5, p1_6, p1_7, p1_8, p1_9, p1_10, p1_11, p1_12, p1_13, p1_14, p1_15, p1_16, p1_17, p1_18, p1_19, p1_20, p1_40, p1_50, p1_200, p1_1000] at k0 ⊢; omega)).symm, trivial⟩, hS.F ht⟩) hS.2.2 dX9_in_10
  · refine lv_iload_n hx hb dX9_in_4 rfl (lv_at hl 1 rfl) ?_
    refine lv_iconst (v := 5) hx hb dX9_in_5 (by decide) ?_
    refine lv_icmp_le (tgt := 11) hx hb dX9_in_6 (by decide) (fun c_2 => ?_) (fun c_2 => ?_)
    · refine lv_iconst (v := 0) hx hb dX9_in_11 (by decide) ?_
      refine lv_istore_n (lv' := [(2, .int 0), (0, .ref h0), (1, .int p0)]) hx hb dX9_in_12 rfl hl (by decide) rfl (fun ls hl => ?_)
      refine lv_iconst (v := 0) hx hb dX9_in_13 (by decide) ?_
      refine lv_istore_n (lv' := [(3, .int 0), (2, .int 0), (0, .ref h0), (1, .int p0)]) hx hb dX9_in_14 rfl hl (by decide) rfl (fun ls hl => ?_)
      refine lv_iload_n hx hb dX9_in_15 rfl (lv_at hl 0 rfl) ?_
      refine lv_aload_n hx hb dX9_in_16 rfl (lv_at hl 2 rfl) ?_
      refine va_get (D := (dC, dI)) (ci := 10) (v := .int 0) (C := RX9) (T := TX9) (N := 46) hx hb hts in_m_in_X9 hown hK hP 0 rfl rfl 21 (by decide) (hts (.fieldLink RX9 126 "ServiceTreeModel" "services" "I") (by decide +kernel)) (fun _ h9 => h9) rfl dX9_in_17 ?_
      refine lv_icmp_ge (tgt := 47) hx hb dX9_in_20 (by decide) (fun _ => ?_) (fun c9 => absurd (by decide) c9)
      refine lv_iload_n hx hb dX9_in_47 rfl (lv_at hl 1 rfl) ?_
      exact W.iret (v := 0) hx hb hr (fun t ht hW => ⟨⟨0, (), rfl, (if_pos (by have k0 := c_1; have k1 := c_2; simp only [p1_le, p1_lt, p1_eq, p1_m6, p1_m1, p1_0, p1_1, p1_2, p1_3, p1_4, p1_5, p1_6, p1_7, p1_8, p1_9, p1_10, p1_11, p1_12, p1_13, p1_14, p1_15, p1_16, p1_17, p1_18, p1_19, p1_20, p1_40, p1_50, p1_200, p1_1000] at k0 k1 ⊢; omega)).symm, trivial⟩, hS.F ht⟩) hS.2.2 dX9_in_48
    · refine lv_iconst (v := (-1)) hx hb dX9_in_9 (by decide) ?_
      exact W.iret (v := (-1)) hx hb hr (fun t ht hW => ⟨⟨(-1), (), rfl, (if_neg (by have k0 := c_1; have k1 := c_2; simp only [p1_le, p1_lt, p1_eq, p1_m6, p1_m1, p1_0, p1_1, p1_2, p1_3, p1_4, p1_5, p1_6, p1_7, p1_8, p1_9, p1_10, p1_11, p1_12, p1_13, p1_14, p1_15, p1_16, p1_17, p1_18, p1_19, p1_20, p1_40, p1_50, p1_200, p1_1000] at k0 k1 ⊢; omega)).symm, trivial⟩, hS.F ht⟩) hS.2.2 dX9_in_10
def wq_m_count : List Cond := [.code yX9_count cX9_count 2 (some .int), .fieldLink RX9 126 "ServiceTreeModel" "services" "I", .fieldLink RX9 153 "ServiceTreeModel" "relations" "I", .fieldLink RX9 129 "ServiceTreeModel" "tick" "I", .fieldLink RX9 249 "ServiceTreeModel" "lettersAll" "I", .fieldLink RX9 243 "ServiceTreeModel" "readAll" "I", .methodLink RX9 143 yX9_jobs, .instanceMethod yX9_jobs, .selects RX9 yX9_jobs yX9_jobs, .initialized RX9] ++ (wsX90 ++ (wq_jobs))
theorem in_m_count_X9 : ∀ w ∈ wsX90, w ∈ wq_m_count := fun _ h => List.mem_append_right _ (List.mem_append_left _ (h))
set_option maxRecDepth 20000 in
theorem wi_m_count : ∀ w ∈ wq_m_count, w ∈ lw_tbl := List.forall_mem_append.mpr ⟨(by decide +kernel), List.forall_mem_append.mpr ⟨inKX9, wi_jobs⟩⟩
set_option maxRecDepth 20000 in
theorem wg_m_count : GoodIn wq_m_count wq_m_count := goodIn_sub (fun _ h => h) (by decide +kernel)
set_option maxRecDepth 20000 in
theorem wc_m_count_jobs_143 : GoodIn wq_m_count (wsV RX9 143 RX9 yX9_jobs wq_jobs) := goodIn_app (goodIn_of _ (by decide +kernel)) (fun w h => ⟨List.mem_append_right _ (List.mem_append_right _ (h)), (wg_jobs w h).2⟩)
set_option maxHeartbeats 4000000 in
set_option maxRecDepth 100000 in
theorem c_m_count (l : Launch) (dC : Nat → ClassId) (dI : Nat → Nat → Nat) (h0 : Nat) (a : Nat → Nat) (p0 : Int32) (sz : Nat) : Met l yX9_count wq_m_count ({ frames := 1, cells := 0, slots := 0, locals := 22 }) (va_Pc [.ref h0, .int p0] (fun U => U.heap.size = sz ∧ va_P (dC, dI) vwCl [(h0, .inr (10, [.ref (a 0), .ref (a 1), .ref (a 2), .ref (a 3), .ref (a 4), .ref (a 5), .ref (a 6), .ref (a 7), .ref (a 8), .ref (a 9), .ref (a 10), .ref (a 11), .ref (a 12), .ref (a 13), .ref (a 14), .ref (a 15), .ref (a 16), .ref (a 17), .ref (a 18), .ref (a 19), .int 0, .int 0, .int 0, .int 0, .int 0, .ref (a 25), .ref (a 26), .ref (a 27), .ref (a 28), .ref (a 29), .ref (a 30), .ref (a 31), .ref (a 32), .int 0, .ref (a 34), .ref (a 35), .ref (a 36), .ref (a 37), .int 0, .int (-1), .ref (a 40), .ref (a 41), .ref (a 42), .ref (a 43), .ref (a 44), .int 0]))] U.heap ∧ va_K (dC, dI) vwCl [] U ∧ va_D (fun _ => True) [(h0, .inr (10, [.ref (a 0), .ref (a 1), .ref (a 2), .ref (a 3), .ref (a 4), .ref (a 5), .ref (a 6), .ref (a 7), .ref (a 8), .ref (a 9), .ref (a 10), .ref (a 11), .ref (a 12), .ref (a 13), .ref (a 14), .ref (a 15), .ref (a 16), .ref (a 17), .ref (a 18), .ref (a 19), .int 0, .int 0, .int 0, .int 0, .int 0, .ref (a 25), .ref (a 26), .ref (a 27), .ref (a 28), .ref (a 29), .ref (a 30), .ref (a 31), .ref (a 32), .int 0, .ref (a 34), .ref (a 35), .ref (a 36), .ref (a 37), .int 0, .int (-1), .ref (a 40), .ref (a 41), .ref (a 42), .ref (a 43), .ref (a 44), .int 0]))] ∧ pw_N U)) (va_Qi (fun (r : Int32) (_ : Unit) => r = if 0 ≤ p0 ∧ p0 ≤ 5 then 0 else (-1)) (fun (_ : Unit) (t : State) => True) (va_A [(h0, .inr (10, [.ref (a 0), .ref (a 1), .ref (a 2), .ref (a 3), .ref (a 4), .ref (a 5), .ref (a 6), .ref (a 7), .ref (a 8), .ref (a 9), .ref (a 10), .ref (a 11), .ref (a 12), .ref (a 13), .ref (a 14), .ref (a 15), .ref (a 16), .ref (a 17), .ref (a 18), .ref (a 19), .int 0, .int 0, .int 0, .int 0, .int 0, .ref (a 25), .ref (a 26), .ref (a 27), .ref (a 28), .ref (a 29), .ref (a 30), .ref (a 31), .ref (a 32), .int 0, .ref (a 34), .ref (a 35), .ref (a 36), .ref (a 37), .int 0, .int (-1), .ref (a 40), .ref (a 41), .ref (a 42), .ref (a 43), .ref (a 44), .int 0]))] sz)) 0 0 (va_A [(h0, .inr (10, [.ref (a 0), .ref (a 1), .ref (a 2), .ref (a 3), .ref (a 4), .ref (a 5), .ref (a 6), .ref (a 7), .ref (a 8), .ref (a 9), .ref (a 10), .ref (a 11), .ref (a 12), .ref (a 13), .ref (a 14), .ref (a 15), .ref (a 16), .ref (a 17), .ref (a 18), .ref (a 19), .int 0, .int 0, .int 0, .int 0, .int 0, .ref (a 25), .ref (a 26), .ref (a 27), .ref (a 28), .ref (a 29), .ref (a 30), .ref (a 31), .ref (a 32), .int 0, .ref (a 34), .ref (a 35), .ref (a 36), .ref (a 37), .int 0, .int (-1), .ref (a 40), .ref (a 41), .ref (a 42), .ref (a 43), .ref (a 44), .int 0]))] sz) := by
  refine Met.ofW (cc := cX9_count) (maxL := 2) (ret := (some .int)) (by decide) rfl ?_
  intro p e s m args below meth c s₁ B hml hv
  obtain ⟨rfl, hsz, hP, hK, hD0, hN⟩ := hv
  have hx := B.exec
  have hb := B.bytes
  have hr := B.returns
  have hts := atoms_spec (ws := wq_m_count) B.pre
  have hown : s.vm.findClass RX9 = some m.cls := findClass_of_methodNamed B.named
  have hlocks := B.notSynchronized
  subst hsz
  have hD := hD0.self (sz := s.heap.size)
  generalize hAe : va_A [(h0, .inr (10, [.ref (a 0), .ref (a 1), .ref (a 2), .ref (a 3), .ref (a 4), .ref (a 5), .ref (a 6), .ref (a 7), .ref (a 8), .ref (a 9), .ref (a 10), .ref (a 11), .ref (a 12), .ref (a 13), .ref (a 14), .ref (a 15), .ref (a 16), .ref (a 17), .ref (a 18), .ref (a 19), .int 0, .int 0, .int 0, .int 0, .int 0, .ref (a 25), .ref (a 26), .ref (a 27), .ref (a 28), .ref (a 29), .ref (a 30), .ref (a 31), .ref (a 32), .int 0, .ref (a 34), .ref (a 35), .ref (a 36), .ref (a 37), .int 0, .int (-1), .ref (a 40), .ref (a 41), .ref (a 42), .ref (a 43), .ref (a 44), .int 0]))] s.heap.size = A at hD ⊢
  have hA : ∀ q : Nat, s.heap.size ≤ q → A q := fun q h => by rw [← hAe]; exact Or.inr h
  have hS : va_S A s.heap s.heap [] := va_S.rf
  have hP : va_P (dC, dI) vwCl [(h0, .inr (10, [.ref (a 0), .ref (a 1), .ref (a 2), .ref (a 3), .ref (a 4), .ref (a 5), .ref (a 6), .ref (a 7), .ref (a 8), .ref (a 9), .ref (a 10), .ref (a 11), .ref (a 12), .ref (a 13), .ref (a 14), .ref (a 15), .ref (a 16), .ref (a 17), .ref (a 18), .ref (a 19), .int 0, .int 0, .int 0, .int 0, .int 0, .ref (a 25), .ref (a 26), .ref (a 27), .ref (a 28), .ref (a 29), .ref (a 30), .ref (a 31), .ref (a 32), .int 0, .ref (a 34), .ref (a 35), .ref (a 36), .ref (a 37), .int 0, .int (-1), .ref (a 40), .ref (a 41), .ref (a 42), .ref (a 43), .ref (a 44), .int 0]))] s.heap := hP
  have hl := lv_entry ([.ref h0, .int p0]) (n := 2) (Nat.le_of_ble_eq_true rfl)
  rw [lg_entry_eq]
  generalize (lg_sl ([.ref h0, .int p0]) ++ List.replicate (2 - (lg_sl ([.ref h0, .int p0])).length) Slot.unset).toArray = ls at hl ⊢
  have hl : lv_has ls 2 [(0, .ref h0), (1, .int p0)] := hl
  refine lv_iload_n hx hb dX9_count_0 rfl (lv_at hl 1 rfl) ?_
  rcases Classical.em (p0 = 0) with c_1 | c_1
  · refine lv_tableIn (tgt := 40) (off := 39) hx hb dX9_count_1 (by rw [c_1]; decide) (by rw [c_1]; decide) (by rw [c_1]; rfl) (by decide) ?_
    refine lv_aload_n hx hb dX9_count_40 rfl (lv_at hl 0 rfl) ?_
    refine va_get (D := (dC, dI)) (ci := 10) (v := .int 0) (C := RX9) (T := TX9) (N := 46) hx hb hts in_m_count_X9 hown hK hP 0 rfl rfl 21 (by decide) (hts (.fieldLink RX9 126 "ServiceTreeModel" "services" "I") (by decide +kernel)) (fun _ h9 => h9) rfl dX9_count_41 ?_
    exact W.iret (v := 0) hx hb hr (fun t ht hW => ⟨⟨0, (), rfl, (if_pos (by have k0 := c_1; simp only [p1_le, p1_lt, p1_eq, p1_m6, p1_m1, p1_0, p1_1, p1_2, p1_3, p1_4, p1_5, p1_6, p1_7, p1_8, p1_9, p1_10, p1_11, p1_12, p1_13, p1_14, p1_15, p1_16, p1_17, p1_18, p1_19, p1_20, p1_40, p1_50, p1_200, p1_1000] at k0 ⊢; omega)).symm, trivial⟩, hS.F ht⟩) hS.2.2 dX9_count_44
  rcases Classical.em (p0 = 1) with c_2 | c_2
  · refine lv_tableIn (tgt := 45) (off := 44) hx hb dX9_count_1 (by rw [c_2]; decide) (by rw [c_2]; decide) (by rw [c_2]; rfl) (by decide) ?_
    refine lv_aload_n hx hb dX9_count_45 rfl (lv_at hl 0 rfl) ?_
    refine va_get (D := (dC, dI)) (ci := 10) (v := .int 0) (C := RX9) (T := TX9) (N := 46) hx hb hts in_m_count_X9 hown hK hP 0 rfl rfl 20 (by decide) (hts (.fieldLink RX9 153 "ServiceTreeModel" "relations" "I") (by decide +kernel)) (fun _ h9 => h9) rfl dX9_count_46 ?_
    exact W.iret (v := 0) hx hb hr (fun t ht hW => ⟨⟨0, (), rfl, (if_pos (by have k0 := c_1; have k1 := c_2; simp only [p1_le, p1_lt, p1_eq, p1_m6, p1_m1, p1_0, p1_1, p1_2, p1_3, p1_4, p1_5, p1_6, p1_7, p1_8, p1_9, p1_10, p1_11, p1_12, p1_13, p1_14, p1_15, p1_16, p1_17, p1_18, p1_19, p1_20, p1_40, p1_50, p1_200, p1_1000] at k0 k1 ⊢; omega)).symm, trivial⟩, hS.F ht⟩) hS.2.2 dX9_count_49
  rcases Classical.em (p0 = 2) with c_3 | c_3
  · refine lv_tableIn (tgt := 50) (off := 49) hx hb dX9_count_1 (by rw [c_3]; decide) (by rw [c_3]; decide) (by rw [c_3]; rfl) (by decide) ?_
    refine lv_aload_n hx hb dX9_count_50 rfl (lv_at hl 0 rfl) ?_
    have hPc := hP.sub (ws' := [(h0, .inr (10, [.ref (a 0), .ref (a 1), .ref (a 2), .ref (a 3), .ref (a 4), .ref (a 5), .ref (a 6), .ref (a 7), .ref (a 8), .ref (a 9), .ref (a 10), .ref (a 11), .ref (a 12), .ref (a 13), .ref (a 14), .ref (a 15), .ref (a 16), .ref (a 17), .ref (a 18), .ref (a 19), .int 0, .int 0, .int 0, .int 0, .int 0, .ref (a 25), .ref (a 26), .ref (a 27), .ref (a 28), .ref (a 29), .ref (a 30), .ref (a 31), .ref (a 32), .int 0, .ref (a 34), .ref (a 35), .ref (a 36), .ref (a 37), .int 0, .int (-1), .ref (a 40), .ref (a 41), .ref (a 42), .ref (a 43), .ref (a 44), .int 0]))]) [0] rfl
    have hDc := hD.sub (ws' := [(h0, .inr (10, [.ref (a 0), .ref (a 1), .ref (a 2), .ref (a 3), .ref (a 4), .ref (a 5), .ref (a 6), .ref (a 7), .ref (a 8), .ref (a 9), .ref (a 10), .ref (a 11), .ref (a 12), .ref (a 13), .ref (a 14), .ref (a 15), .ref (a 16), .ref (a 17), .ref (a 18), .ref (a 19), .int 0, .int 0, .int 0, .int 0, .int 0, .ref (a 25), .ref (a 26), .ref (a 27), .ref (a 28), .ref (a 29), .ref (a 30), .ref (a 31), .ref (a 32), .int 0, .ref (a 34), .ref (a 35), .ref (a 36), .ref (a 37), .int 0, .int (-1), .ref (a 40), .ref (a 41), .ref (a 42), .ref (a 43), .ref (a 44), .int 0]))]) [0] (by decide) rfl
    have hKc := hK.sub (tys' := []) [] rfl
    have hFc := va_free (wc := [(h0, .inr (10, [.ref (a 0), .ref (a 1), .ref (a 2), .ref (a 3), .ref (a 4), .ref (a 5), .ref (a 6), .ref (a 7), .ref (a 8), .ref (a 9), .ref (a 10), .ref (a 11), .ref (a 12), .ref (a 13), .ref (a 14), .ref (a 15), .ref (a 16), .ref (a 17), .ref (a 18), .ref (a 19), .int 0, .int 0, .int 0, .int 0, .int 0, .ref (a 25), .ref (a 26), .ref (a 27), .ref (a 28), .ref (a 29), .ref (a 30), .ref (a 31), .ref (a 32), .int 0, .ref (a 34), .ref (a 35), .ref (a 36), .ref (a 37), .int 0, .int (-1), .ref (a 40), .ref (a 41), .ref (a 42), .ref (a 43), .ref (a 44), .int 0]))]) hD hS hA [0] rfl
    refine va_calli (va_runV (As := []) (rest := []) ⟨hx, hb, hml, hown, hts⟩ (c_jobs l dC dI h0 a 0 s.heap.size) (cwV 0 hts wc_m_count_jobs_143 rfl rfl rfl (by decide +kernel) ⟨Nat.le_of_ble_eq_true rfl, Nat.le_of_ble_eq_true rfl⟩) ⟨fun a U g mk q => by obtain ⟨q0, q1, qP, qK, qD, qN⟩ := q; exact ⟨q0, q1, qP, va_K.moved (u := U) (U := U.calling g mk a) (Vm.Alike.refl U.vm) qK, qD, pw_N.same (u := U) (U := U.calling g mk a) rfl qN⟩, va_recv hKc hPc (ci := 10) (q0 := 0) rfl rfl, fun U hU hW => ⟨rfl, by rw [hU], by rw [hU]; exact hPc, va_K.moved hW.alike hKc, hDc.weaken (fun _ _ _ _ => trivial), pw_N.warm hW hN⟩⟩ rfl rfl hl.1 rfl (lv_room (Nat.le_of_ble_eq_true rfl)) dX9_count_51 ⟨Nat.le_of_ble_eq_true rfl, Nat.le_of_ble_eq_true rfl⟩) hS (fun q _ h => hFc q h) hFc (fun r_4 u t H1 locs ht hvm hw hB hz1 hk1 hS => ?_)
    obtain ⟨hP1, hD1⟩ := hB
    rw [ht] at hP1
    obtain ⟨hP, hD⟩ := va_join (wr := []) (w1 := [(h0, .inr (10, [.ref (a 0), .ref (a 1), .ref (a 2), .ref (a 3), .ref (a 4), .ref (a 5), .ref (a 6), .ref (a 7), .ref (a 8), .ref (a 9), .ref (a 10), .ref (a 11), .ref (a 12), .ref (a 13), .ref (a 14), .ref (a 15), .ref (a 16), .ref (a 17), .ref (a 18), .ref (a 19), .int 0, .int 0, .int 0, .int 0, .int 0, .ref (a 25), .ref (a 26), .ref (a 27), .ref (a 28), .ref (a 29), .ref (a 30), .ref (a 31), .ref (a 32), .int 0, .ref (a 34), .ref (a 35), .ref (a 36), .ref (a 37), .int 0, .int (-1), .ref (a 40), .ref (a 41), .ref (a 42), .ref (a 43), .ref (a 44), .int 0]))]) hP hD [0] [] rfl rfl (by decide) (by decide) hk1 hFc hP1 hD1
    generalize H1 = H at hP hS ⊢
    replace hP : va_P (dC, dI) vwCl [(h0, .inr (10, [.ref (a 0), .ref (a 1), .ref (a 2), .ref (a 3), .ref (a 4), .ref (a 5), .ref (a 6), .ref (a 7), .ref (a 8), .ref (a 9), .ref (a 10), .ref (a 11), .ref (a 12), .ref (a 13), .ref (a 14), .ref (a 15), .ref (a 16), .ref (a 17), .ref (a 18), .ref (a 19), .int 0, .int 0, .int 0, .int 0, .int 0, .ref (a 25), .ref (a 26), .ref (a 27), .ref (a 28), .ref (a 29), .ref (a 30), .ref (a 31), .ref (a 32), .int 0, .ref (a 34), .ref (a 35), .ref (a 36), .ref (a 37), .int 0, .int (-1), .ref (a 40), .ref (a 41), .ref (a 42), .ref (a 43), .ref (a 44), .int 0]))] H := hP
    replace hD : va_D A [(h0, .inr (10, [.ref (a 0), .ref (a 1), .ref (a 2), .ref (a 3), .ref (a 4), .ref (a 5), .ref (a 6), .ref (a 7), .ref (a 8), .ref (a 9), .ref (a 10), .ref (a 11), .ref (a 12), .ref (a 13), .ref (a 14), .ref (a 15), .ref (a 16), .ref (a 17), .ref (a 18), .ref (a 19), .int 0, .int 0, .int 0, .int 0, .int 0, .ref (a 25), .ref (a 26), .ref (a 27), .ref (a 28), .ref (a 29), .ref (a 30), .ref (a 31), .ref (a 32), .int 0, .ref (a 34), .ref (a 35), .ref (a 36), .ref (a 37), .int 0, .int (-1), .ref (a 40), .ref (a 41), .ref (a 42), .ref (a 43), .ref (a 44), .int 0]))] := hD
    try dsimp only at hw
    subst hw
    exact W.iret (v := 0) hx hb hr (fun t ht hW => ⟨⟨0, (), rfl, (if_pos (by have k0 := c_1; have k1 := c_2; have k2 := c_3; simp only [p1_le, p1_lt, p1_eq, p1_m6, p1_m1, p1_0, p1_1, p1_2, p1_3, p1_4, p1_5, p1_6, p1_7, p1_8, p1_9, p1_10, p1_11, p1_12, p1_13, p1_14, p1_15, p1_16, p1_17, p1_18, p1_19, p1_20, p1_40, p1_50, p1_200, p1_1000] at k0 k1 k2 ⊢; omega)).symm, trivial⟩, hS.F ht⟩) hS.2.2 dX9_count_54
  rcases Classical.em (p0 = 3) with c_5 | c_5
  · refine lv_tableIn (tgt := 55) (off := 54) hx hb dX9_count_1 (by rw [c_5]; decide) (by rw [c_5]; decide) (by rw [c_5]; rfl) (by decide) ?_
    refine lv_aload_n hx hb dX9_count_55 rfl (lv_at hl 0 rfl) ?_
    refine va_get (D := (dC, dI)) (ci := 10) (v := .int 0) (C := RX9) (T := TX9) (N := 46) hx hb hts in_m_count_X9 hown hK hP 0 rfl rfl 22 (by decide) (hts (.fieldLink RX9 129 "ServiceTreeModel" "tick" "I") (by decide +kernel)) (fun _ h9 => h9) rfl dX9_count_56 ?_
    exact W.iret (v := 0) hx hb hr (fun t ht hW => ⟨⟨0, (), rfl, (if_pos (by have k0 := c_1; have k1 := c_2; have k2 := c_3; have k3 := c_5; simp only [p1_le, p1_lt, p1_eq, p1_m6, p1_m1, p1_0, p1_1, p1_2, p1_3, p1_4, p1_5, p1_6, p1_7, p1_8, p1_9, p1_10, p1_11, p1_12, p1_13, p1_14, p1_15, p1_16, p1_17, p1_18, p1_19, p1_20, p1_40, p1_50, p1_200, p1_1000] at k0 k1 k2 k3 ⊢; omega)).symm, trivial⟩, hS.F ht⟩) hS.2.2 dX9_count_59
  rcases Classical.em (p0 = 4) with c_6 | c_6
  · refine lv_tableIn (tgt := 60) (off := 59) hx hb dX9_count_1 (by rw [c_6]; decide) (by rw [c_6]; decide) (by rw [c_6]; rfl) (by decide) ?_
    refine lv_aload_n hx hb dX9_count_60 rfl (lv_at hl 0 rfl) ?_
    refine va_get (D := (dC, dI)) (ci := 10) (v := .int 0) (C := RX9) (T := TX9) (N := 46) hx hb hts in_m_count_X9 hown hK hP 0 rfl rfl 23 (by decide) (hts (.fieldLink RX9 249 "ServiceTreeModel" "lettersAll" "I") (by decide +kernel)) (fun _ h9 => h9) rfl dX9_count_61 ?_
    exact W.iret (v := 0) hx hb hr (fun t ht hW => ⟨⟨0, (), rfl, (if_pos (by have k0 := c_1; have k1 := c_2; have k2 := c_3; have k3 := c_5; have k4 := c_6; simp only [p1_le, p1_lt, p1_eq, p1_m6, p1_m1, p1_0, p1_1, p1_2, p1_3, p1_4, p1_5, p1_6, p1_7, p1_8, p1_9, p1_10, p1_11, p1_12, p1_13, p1_14, p1_15, p1_16, p1_17, p1_18, p1_19, p1_20, p1_40, p1_50, p1_200, p1_1000] at k0 k1 k2 k3 k4 ⊢; omega)).symm, trivial⟩, hS.F ht⟩) hS.2.2 dX9_count_64
  rcases Classical.em (p0 = 5) with c_7 | c_7
  · refine lv_tableIn (tgt := 65) (off := 64) hx hb dX9_count_1 (by rw [c_7]; decide) (by rw [c_7]; decide) (by rw [c_7]; rfl) (by decide) ?_
    refine lv_aload_n hx hb dX9_count_65 rfl (lv_at hl 0 rfl) ?_
    refine va_get (D := (dC, dI)) (ci := 10) (v := .int 0) (C := RX9) (T := TX9) (N := 46) hx hb hts in_m_count_X9 hown hK hP 0 rfl rfl 24 (by decide) (hts (.fieldLink RX9 243 "ServiceTreeModel" "readAll" "I") (by decide +kernel)) (fun _ h9 => h9) rfl dX9_count_66 ?_
    exact W.iret (v := 0) hx hb hr (fun t ht hW => ⟨⟨0, (), rfl, (if_pos (by have k0 := c_1; have k1 := c_2; have k2 := c_3; have k3 := c_5; have k4 := c_6; have k5 := c_7; simp only [p1_le, p1_lt, p1_eq, p1_m6, p1_m1, p1_0, p1_1, p1_2, p1_3, p1_4, p1_5, p1_6, p1_7, p1_8, p1_9, p1_10, p1_11, p1_12, p1_13, p1_14, p1_15, p1_16, p1_17, p1_18, p1_19, p1_20, p1_40, p1_50, p1_200, p1_1000] at k0 k1 k2 k3 k4 k5 ⊢; omega)).symm, trivial⟩, hS.F ht⟩) hS.2.2 dX9_count_69
  refine lv_tableOut (tgt := 70) hx hb dX9_count_1 (by have k0 := c_1; have k1 := c_2; have k2 := c_3; have k3 := c_5; have k4 := c_6; have k5 := c_7; simp only [p1_le, p1_lt, p1_eq, p1_m6, p1_m1, p1_0, p1_1, p1_2, p1_3, p1_4, p1_5, p1_6, p1_7, p1_8, p1_9, p1_10, p1_11, p1_12, p1_13, p1_14, p1_15, p1_16, p1_17, p1_18, p1_19, p1_20, p1_40, p1_50, p1_200, p1_1000] at k0 k1 k2 k3 k4 k5 ⊢; omega) (by decide) ?_
  refine lv_iconst (v := (-1)) hx hb dX9_count_70 (by decide) ?_
  exact W.iret (v := (-1)) hx hb hr (fun t ht hW => ⟨⟨(-1), (), rfl, (if_neg (by have k0 := c_1; have k1 := c_2; have k2 := c_3; have k3 := c_5; have k4 := c_6; have k5 := c_7; simp only [p1_le, p1_lt, p1_eq, p1_m6, p1_m1, p1_0, p1_1, p1_2, p1_3, p1_4, p1_5, p1_6, p1_7, p1_8, p1_9, p1_10, p1_11, p1_12, p1_13, p1_14, p1_15, p1_16, p1_17, p1_18, p1_19, p1_20, p1_40, p1_50, p1_200, p1_1000] at k0 k1 k2 k3 k4 k5 ⊢; omega)).symm, trivial⟩, hS.F ht⟩) hS.2.2 dX9_count_71
def wq_endJobs : List Cond := [.code yX9_endJobs cX9_endJobs 2 none, .fieldLink RX9 126 "ServiceTreeModel" "services" "I"] ++ (wsX90)
theorem in_endJobs_X9 : ∀ w ∈ wsX90, w ∈ wq_endJobs := fun _ h => List.mem_append_right _ (h)
set_option maxRecDepth 20000 in
theorem wi_endJobs : ∀ w ∈ wq_endJobs, w ∈ lw_tbl := List.forall_mem_append.mpr ⟨(by decide +kernel), inKX9⟩
set_option maxRecDepth 20000 in
theorem wg_endJobs : GoodIn wq_endJobs wq_endJobs := goodIn_sub (fun _ h => h) (by decide +kernel)
set_option maxHeartbeats 4000000 in
set_option maxRecDepth 100000 in
theorem c_endJobs (l : Launch) (dC : Nat → ClassId) (dI : Nat → Nat → Nat) (h0 : Nat) (a : Nat → Nat) (tk : Int32) (sz : Nat) : Met l yX9_endJobs wq_endJobs ({ frames := 0, cells := 0, slots := 0, locals := 0 }) (va_Pc [.ref h0] (fun U => U.heap.size = sz ∧ va_P (dC, dI) vwCl [(h0, .inr (10, [.ref (a 0), .ref (a 1), .ref (a 2), .ref (a 3), .ref (a 4), .ref (a 5), .ref (a 6), .ref (a 7), .ref (a 8), .ref (a 9), .ref (a 10), .ref (a 11), .ref (a 12), .ref (a 13), .ref (a 14), .ref (a 15), .ref (a 16), .ref (a 17), .ref (a 18), .ref (a 19), .int 0, .int 0, .int tk, .int 0, .int 0, .ref (a 25), .ref (a 26), .ref (a 27), .ref (a 28), .ref (a 29), .ref (a 30), .ref (a 31), .ref (a 32), .int 0, .ref (a 34), .ref (a 35), .ref (a 36), .ref (a 37), .int 0, .int (-1), .ref (a 40), .ref (a 41), .ref (a 42), .ref (a 43), .ref (a 44), .int 0]))] U.heap ∧ va_K (dC, dI) vwCl [] U ∧ va_D (fun _ => True) [(h0, .inr (10, [.ref (a 0), .ref (a 1), .ref (a 2), .ref (a 3), .ref (a 4), .ref (a 5), .ref (a 6), .ref (a 7), .ref (a 8), .ref (a 9), .ref (a 10), .ref (a 11), .ref (a 12), .ref (a 13), .ref (a 14), .ref (a 15), .ref (a 16), .ref (a 17), .ref (a 18), .ref (a 19), .int 0, .int 0, .int tk, .int 0, .int 0, .ref (a 25), .ref (a 26), .ref (a 27), .ref (a 28), .ref (a 29), .ref (a 30), .ref (a 31), .ref (a 32), .int 0, .ref (a 34), .ref (a 35), .ref (a 36), .ref (a 37), .int 0, .int (-1), .ref (a 40), .ref (a 41), .ref (a 42), .ref (a 43), .ref (a 44), .int 0]))] ∧ pw_N U)) (va_Qv (fun (_ : Unit) => True) (fun (_ : Unit) (t : State) => va_P (dC, dI) vwCl [(h0, .inr (10, [.ref (a 0), .ref (a 1), .ref (a 2), .ref (a 3), .ref (a 4), .ref (a 5), .ref (a 6), .ref (a 7), .ref (a 8), .ref (a 9), .ref (a 10), .ref (a 11), .ref (a 12), .ref (a 13), .ref (a 14), .ref (a 15), .ref (a 16), .ref (a 17), .ref (a 18), .ref (a 19), .int 0, .int 0, .int tk, .int 0, .int 0, .ref (a 25), .ref (a 26), .ref (a 27), .ref (a 28), .ref (a 29), .ref (a 30), .ref (a 31), .ref (a 32), .int 0, .ref (a 34), .ref (a 35), .ref (a 36), .ref (a 37), .int 0, .int (-1), .ref (a 40), .ref (a 41), .ref (a 42), .ref (a 43), .ref (a 44), .int 0]))] t.heap ∧ va_D (va_A [(h0, .inr (10, [.ref (a 0), .ref (a 1), .ref (a 2), .ref (a 3), .ref (a 4), .ref (a 5), .ref (a 6), .ref (a 7), .ref (a 8), .ref (a 9), .ref (a 10), .ref (a 11), .ref (a 12), .ref (a 13), .ref (a 14), .ref (a 15), .ref (a 16), .ref (a 17), .ref (a 18), .ref (a 19), .int 0, .int 0, .int tk, .int 0, .int 0, .ref (a 25), .ref (a 26), .ref (a 27), .ref (a 28), .ref (a 29), .ref (a 30), .ref (a 31), .ref (a 32), .int 0, .ref (a 34), .ref (a 35), .ref (a 36), .ref (a 37), .int 0, .int (-1), .ref (a 40), .ref (a 41), .ref (a 42), .ref (a 43), .ref (a 44), .int 0]))] sz) [(h0, .inr (10, [.ref (a 0), .ref (a 1), .ref (a 2), .ref (a 3), .ref (a 4), .ref (a 5), .ref (a 6), .ref (a 7), .ref (a 8), .ref (a 9), .ref (a 10), .ref (a 11), .ref (a 12), .ref (a 13), .ref (a 14), .ref (a 15), .ref (a 16), .ref (a 17), .ref (a 18), .ref (a 19), .int 0, .int 0, .int tk, .int 0, .int 0, .ref (a 25), .ref (a 26), .ref (a 27), .ref (a 28), .ref (a 29), .ref (a 30), .ref (a 31), .ref (a 32), .int 0, .ref (a 34), .ref (a 35), .ref (a 36), .ref (a 37), .int 0, .int (-1), .ref (a 40), .ref (a 41), .ref (a 42), .ref (a 43), .ref (a 44), .int 0]))]) (va_A [(h0, .inr (10, [.ref (a 0), .ref (a 1), .ref (a 2), .ref (a 3), .ref (a 4), .ref (a 5), .ref (a 6), .ref (a 7), .ref (a 8), .ref (a 9), .ref (a 10), .ref (a 11), .ref (a 12), .ref (a 13), .ref (a 14), .ref (a 15), .ref (a 16), .ref (a 17), .ref (a 18), .ref (a 19), .int 0, .int 0, .int tk, .int 0, .int 0, .ref (a 25), .ref (a 26), .ref (a 27), .ref (a 28), .ref (a 29), .ref (a 30), .ref (a 31), .ref (a 32), .int 0, .ref (a 34), .ref (a 35), .ref (a 36), .ref (a 37), .int 0, .int (-1), .ref (a 40), .ref (a 41), .ref (a 42), .ref (a 43), .ref (a 44), .int 0]))] sz)) 0 0 (va_A [(h0, .inr (10, [.ref (a 0), .ref (a 1), .ref (a 2), .ref (a 3), .ref (a 4), .ref (a 5), .ref (a 6), .ref (a 7), .ref (a 8), .ref (a 9), .ref (a 10), .ref (a 11), .ref (a 12), .ref (a 13), .ref (a 14), .ref (a 15), .ref (a 16), .ref (a 17), .ref (a 18), .ref (a 19), .int 0, .int 0, .int tk, .int 0, .int 0, .ref (a 25), .ref (a 26), .ref (a 27), .ref (a 28), .ref (a 29), .ref (a 30), .ref (a 31), .ref (a 32), .int 0, .ref (a 34), .ref (a 35), .ref (a 36), .ref (a 37), .int 0, .int (-1), .ref (a 40), .ref (a 41), .ref (a 42), .ref (a 43), .ref (a 44), .int 0]))] sz) := by
  refine Met.ofW (cc := cX9_endJobs) (maxL := 2) (ret := none) (by decide) rfl ?_
  intro p e s m args below meth c s₁ B hml hv
  obtain ⟨rfl, hsz, hP, hK, hD0, hN⟩ := hv
  have hx := B.exec
  have hb := B.bytes
  have hr := B.returns
  have hts := atoms_spec (ws := wq_endJobs) B.pre
  have hown : s.vm.findClass RX9 = some m.cls := findClass_of_methodNamed B.named
  have hlocks := B.notSynchronized
  subst hsz
  have hD := hD0.self (sz := s.heap.size)
  generalize hAe : va_A [(h0, .inr (10, [.ref (a 0), .ref (a 1), .ref (a 2), .ref (a 3), .ref (a 4), .ref (a 5), .ref (a 6), .ref (a 7), .ref (a 8), .ref (a 9), .ref (a 10), .ref (a 11), .ref (a 12), .ref (a 13), .ref (a 14), .ref (a 15), .ref (a 16), .ref (a 17), .ref (a 18), .ref (a 19), .int 0, .int 0, .int tk, .int 0, .int 0, .ref (a 25), .ref (a 26), .ref (a 27), .ref (a 28), .ref (a 29), .ref (a 30), .ref (a 31), .ref (a 32), .int 0, .ref (a 34), .ref (a 35), .ref (a 36), .ref (a 37), .int 0, .int (-1), .ref (a 40), .ref (a 41), .ref (a 42), .ref (a 43), .ref (a 44), .int 0]))] s.heap.size = A at hD ⊢
  have hA : ∀ q : Nat, s.heap.size ≤ q → A q := fun q h => by rw [← hAe]; exact Or.inr h
  have hS : va_S A s.heap s.heap [] := va_S.rf
  have hP : va_P (dC, dI) vwCl [(h0, .inr (10, [.ref (a 0), .ref (a 1), .ref (a 2), .ref (a 3), .ref (a 4), .ref (a 5), .ref (a 6), .ref (a 7), .ref (a 8), .ref (a 9), .ref (a 10), .ref (a 11), .ref (a 12), .ref (a 13), .ref (a 14), .ref (a 15), .ref (a 16), .ref (a 17), .ref (a 18), .ref (a 19), .int 0, .int 0, .int tk, .int 0, .int 0, .ref (a 25), .ref (a 26), .ref (a 27), .ref (a 28), .ref (a 29), .ref (a 30), .ref (a 31), .ref (a 32), .int 0, .ref (a 34), .ref (a 35), .ref (a 36), .ref (a 37), .int 0, .int (-1), .ref (a 40), .ref (a 41), .ref (a 42), .ref (a 43), .ref (a 44), .int 0]))] s.heap := hP
  have hl := lv_entry ([.ref h0]) (n := 2) (Nat.le_of_ble_eq_true rfl)
  rw [lg_entry_eq]
  generalize (lg_sl ([.ref h0]) ++ List.replicate (2 - (lg_sl ([.ref h0])).length) Slot.unset).toArray = ls at hl ⊢
  have hl : lv_has ls 2 [(0, .ref h0)] := hl
  refine lv_iconst (v := 0) hx hb dX9_endJobs_0 (by decide) ?_
  refine lv_istore_n (lv' := [(1, .int 0), (0, .ref h0)]) hx hb dX9_endJobs_1 rfl hl (by decide) rfl (fun ls hl => ?_)
  refine lv_iload_n hx hb dX9_endJobs_2 rfl (lv_at hl 0 rfl) ?_
  refine lv_aload_n hx hb dX9_endJobs_3 rfl (lv_at hl 1 rfl) ?_
  refine va_get (D := (dC, dI)) (ci := 10) (v := .int 0) (C := RX9) (T := TX9) (N := 46) hx hb hts in_endJobs_X9 hown hK hP 0 rfl rfl 21 (by decide) (hts (.fieldLink RX9 126 "ServiceTreeModel" "services" "I") (by decide +kernel)) (fun _ h9 => h9) rfl dX9_endJobs_4 ?_
  refine lv_icmp_ge (tgt := 73) hx hb dX9_endJobs_7 (by decide) (fun _ => ?_) (fun c9 => absurd (by decide) c9)
  have hP9 := hP.sub (ws' := [(h0, .inr (10, [.ref (a 0), .ref (a 1), .ref (a 2), .ref (a 3), .ref (a 4), .ref (a 5), .ref (a 6), .ref (a 7), .ref (a 8), .ref (a 9), .ref (a 10), .ref (a 11), .ref (a 12), .ref (a 13), .ref (a 14), .ref (a 15), .ref (a 16), .ref (a 17), .ref (a 18), .ref (a 19), .int 0, .int 0, .int tk, .int 0, .int 0, .ref (a 25), .ref (a 26), .ref (a 27), .ref (a 28), .ref (a 29), .ref (a 30), .ref (a 31), .ref (a 32), .int 0, .ref (a 34), .ref (a 35), .ref (a 36), .ref (a 37), .int 0, .int (-1), .ref (a 40), .ref (a 41), .ref (a 42), .ref (a 43), .ref (a 44), .int 0]))]) [0] rfl
  have hD9 := hD.sub (ws' := [(h0, .inr (10, [.ref (a 0), .ref (a 1), .ref (a 2), .ref (a 3), .ref (a 4), .ref (a 5), .ref (a 6), .ref (a 7), .ref (a 8), .ref (a 9), .ref (a 10), .ref (a 11), .ref (a 12), .ref (a 13), .ref (a 14), .ref (a 15), .ref (a 16), .ref (a 17), .ref (a 18), .ref (a 19), .int 0, .int 0, .int tk, .int 0, .int 0, .ref (a 25), .ref (a 26), .ref (a 27), .ref (a 28), .ref (a 29), .ref (a 30), .ref (a 31), .ref (a 32), .int 0, .ref (a 34), .ref (a 35), .ref (a 36), .ref (a 37), .int 0, .int (-1), .ref (a 40), .ref (a 41), .ref (a 42), .ref (a 43), .ref (a 44), .int 0]))]) [0] (by decide) rfl
  exact W.vret hx hb hr (fun t ht hW => ⟨⟨(), rfl, trivial, by rw [ht]; exact hP9, hD9⟩, hS.F ht⟩) hS.2.2 dX9_endJobs_73
def wq_begin : List Cond := [.code yX9_begin cX9_begin 3 none, .fieldLink RX9 126 "ServiceTreeModel" "services" "I", .methodLink RX9 222 yX9_endJobs, .instanceMethod yX9_endJobs, .selects RX9 yX9_endJobs yX9_endJobs, .initialized RX9] ++ (wsX90 ++ (wq_endJobs))
theorem in_begin_X9 : ∀ w ∈ wsX90, w ∈ wq_begin := fun _ h => List.mem_append_right _ (List.mem_append_left _ (h))
set_option maxRecDepth 20000 in
theorem wi_begin : ∀ w ∈ wq_begin, w ∈ lw_tbl := List.forall_mem_append.mpr ⟨(by decide +kernel), List.forall_mem_append.mpr ⟨inKX9, wi_endJobs⟩⟩
set_option maxRecDepth 20000 in
theorem wg_begin : GoodIn wq_begin wq_begin := goodIn_sub (fun _ h => h) (by decide +kernel)
set_option maxRecDepth 20000 in
theorem wc_begin_endJobs_222 : GoodIn wq_begin (wsV RX9 222 RX9 yX9_endJobs wq_endJobs) := goodIn_app (goodIn_of _ (by decide +kernel)) (fun w h => ⟨List.mem_append_right _ (List.mem_append_right _ (h)), (wg_endJobs w h).2⟩)
set_option maxHeartbeats 4000000 in
set_option maxRecDepth 100000 in
theorem c_begin (l : Launch) (dC : Nat → ClassId) (dI : Nat → Nat → Nat) (h0 : Nat) (a : Nat → Nat) (tk : Int32) (sz : Nat) : Met l yX9_begin wq_begin ({ frames := 1, cells := 0, slots := 0, locals := 21 }) (va_Pc [.ref h0] (fun U => U.heap.size = sz ∧ va_P (dC, dI) vwCl [(h0, .inr (10, [.ref (a 0), .ref (a 1), .ref (a 2), .ref (a 3), .ref (a 4), .ref (a 5), .ref (a 6), .ref (a 7), .ref (a 8), .ref (a 9), .ref (a 10), .ref (a 11), .ref (a 12), .ref (a 13), .ref (a 14), .ref (a 15), .ref (a 16), .ref (a 17), .ref (a 18), .ref (a 19), .int 0, .int 0, .int tk, .int 0, .int 0, .ref (a 25), .ref (a 26), .ref (a 27), .ref (a 28), .ref (a 29), .ref (a 30), .ref (a 31), .ref (a 32), .int 0, .ref (a 34), .ref (a 35), .ref (a 36), .ref (a 37), .int 0, .int (-1), .ref (a 40), .ref (a 41), .ref (a 42), .ref (a 43), .ref (a 44), .int 0]))] U.heap ∧ va_K (dC, dI) vwCl [] U ∧ va_D (fun _ => True) [(h0, .inr (10, [.ref (a 0), .ref (a 1), .ref (a 2), .ref (a 3), .ref (a 4), .ref (a 5), .ref (a 6), .ref (a 7), .ref (a 8), .ref (a 9), .ref (a 10), .ref (a 11), .ref (a 12), .ref (a 13), .ref (a 14), .ref (a 15), .ref (a 16), .ref (a 17), .ref (a 18), .ref (a 19), .int 0, .int 0, .int tk, .int 0, .int 0, .ref (a 25), .ref (a 26), .ref (a 27), .ref (a 28), .ref (a 29), .ref (a 30), .ref (a 31), .ref (a 32), .int 0, .ref (a 34), .ref (a 35), .ref (a 36), .ref (a 37), .int 0, .int (-1), .ref (a 40), .ref (a 41), .ref (a 42), .ref (a 43), .ref (a 44), .int 0]))] ∧ pw_N U)) (va_Qv (fun (_ : Unit) => True) (fun (_ : Unit) (t : State) => va_P (dC, dI) vwCl [(h0, .inr (10, [.ref (a 0), .ref (a 1), .ref (a 2), .ref (a 3), .ref (a 4), .ref (a 5), .ref (a 6), .ref (a 7), .ref (a 8), .ref (a 9), .ref (a 10), .ref (a 11), .ref (a 12), .ref (a 13), .ref (a 14), .ref (a 15), .ref (a 16), .ref (a 17), .ref (a 18), .ref (a 19), .int 0, .int 0, .int tk, .int 0, .int 0, .ref (a 25), .ref (a 26), .ref (a 27), .ref (a 28), .ref (a 29), .ref (a 30), .ref (a 31), .ref (a 32), .int 0, .ref (a 34), .ref (a 35), .ref (a 36), .ref (a 37), .int 0, .int (-1), .ref (a 40), .ref (a 41), .ref (a 42), .ref (a 43), .ref (a 44), .int 0]))] t.heap ∧ va_D (va_A [(h0, .inr (10, [.ref (a 0), .ref (a 1), .ref (a 2), .ref (a 3), .ref (a 4), .ref (a 5), .ref (a 6), .ref (a 7), .ref (a 8), .ref (a 9), .ref (a 10), .ref (a 11), .ref (a 12), .ref (a 13), .ref (a 14), .ref (a 15), .ref (a 16), .ref (a 17), .ref (a 18), .ref (a 19), .int 0, .int 0, .int tk, .int 0, .int 0, .ref (a 25), .ref (a 26), .ref (a 27), .ref (a 28), .ref (a 29), .ref (a 30), .ref (a 31), .ref (a 32), .int 0, .ref (a 34), .ref (a 35), .ref (a 36), .ref (a 37), .int 0, .int (-1), .ref (a 40), .ref (a 41), .ref (a 42), .ref (a 43), .ref (a 44), .int 0]))] sz) [(h0, .inr (10, [.ref (a 0), .ref (a 1), .ref (a 2), .ref (a 3), .ref (a 4), .ref (a 5), .ref (a 6), .ref (a 7), .ref (a 8), .ref (a 9), .ref (a 10), .ref (a 11), .ref (a 12), .ref (a 13), .ref (a 14), .ref (a 15), .ref (a 16), .ref (a 17), .ref (a 18), .ref (a 19), .int 0, .int 0, .int tk, .int 0, .int 0, .ref (a 25), .ref (a 26), .ref (a 27), .ref (a 28), .ref (a 29), .ref (a 30), .ref (a 31), .ref (a 32), .int 0, .ref (a 34), .ref (a 35), .ref (a 36), .ref (a 37), .int 0, .int (-1), .ref (a 40), .ref (a 41), .ref (a 42), .ref (a 43), .ref (a 44), .int 0]))]) (va_A [(h0, .inr (10, [.ref (a 0), .ref (a 1), .ref (a 2), .ref (a 3), .ref (a 4), .ref (a 5), .ref (a 6), .ref (a 7), .ref (a 8), .ref (a 9), .ref (a 10), .ref (a 11), .ref (a 12), .ref (a 13), .ref (a 14), .ref (a 15), .ref (a 16), .ref (a 17), .ref (a 18), .ref (a 19), .int 0, .int 0, .int tk, .int 0, .int 0, .ref (a 25), .ref (a 26), .ref (a 27), .ref (a 28), .ref (a 29), .ref (a 30), .ref (a 31), .ref (a 32), .int 0, .ref (a 34), .ref (a 35), .ref (a 36), .ref (a 37), .int 0, .int (-1), .ref (a 40), .ref (a 41), .ref (a 42), .ref (a 43), .ref (a 44), .int 0]))] sz)) 0 0 (va_A [(h0, .inr (10, [.ref (a 0), .ref (a 1), .ref (a 2), .ref (a 3), .ref (a 4), .ref (a 5), .ref (a 6), .ref (a 7), .ref (a 8), .ref (a 9), .ref (a 10), .ref (a 11), .ref (a 12), .ref (a 13), .ref (a 14), .ref (a 15), .ref (a 16), .ref (a 17), .ref (a 18), .ref (a 19), .int 0, .int 0, .int tk, .int 0, .int 0, .ref (a 25), .ref (a 26), .ref (a 27), .ref (a 28), .ref (a 29), .ref (a 30), .ref (a 31), .ref (a 32), .int 0, .ref (a 34), .ref (a 35), .ref (a 36), .ref (a 37), .int 0, .int (-1), .ref (a 40), .ref (a 41), .ref (a 42), .ref (a 43), .ref (a 44), .int 0]))] sz) := by
  refine Met.ofW (cc := cX9_begin) (maxL := 3) (ret := none) (by decide) rfl ?_
  intro p e s m args below meth c s₁ B hml hv
  obtain ⟨rfl, hsz, hP, hK, hD0, hN⟩ := hv
  have hx := B.exec
  have hb := B.bytes
  have hr := B.returns
  have hts := atoms_spec (ws := wq_begin) B.pre
  have hown : s.vm.findClass RX9 = some m.cls := findClass_of_methodNamed B.named
  have hlocks := B.notSynchronized
  subst hsz
  have hD := hD0.self (sz := s.heap.size)
  generalize hAe : va_A [(h0, .inr (10, [.ref (a 0), .ref (a 1), .ref (a 2), .ref (a 3), .ref (a 4), .ref (a 5), .ref (a 6), .ref (a 7), .ref (a 8), .ref (a 9), .ref (a 10), .ref (a 11), .ref (a 12), .ref (a 13), .ref (a 14), .ref (a 15), .ref (a 16), .ref (a 17), .ref (a 18), .ref (a 19), .int 0, .int 0, .int tk, .int 0, .int 0, .ref (a 25), .ref (a 26), .ref (a 27), .ref (a 28), .ref (a 29), .ref (a 30), .ref (a 31), .ref (a 32), .int 0, .ref (a 34), .ref (a 35), .ref (a 36), .ref (a 37), .int 0, .int (-1), .ref (a 40), .ref (a 41), .ref (a 42), .ref (a 43), .ref (a 44), .int 0]))] s.heap.size = A at hD ⊢
  have hA : ∀ q : Nat, s.heap.size ≤ q → A q := fun q h => by rw [← hAe]; exact Or.inr h
  have hS : va_S A s.heap s.heap [] := va_S.rf
  have hP : va_P (dC, dI) vwCl [(h0, .inr (10, [.ref (a 0), .ref (a 1), .ref (a 2), .ref (a 3), .ref (a 4), .ref (a 5), .ref (a 6), .ref (a 7), .ref (a 8), .ref (a 9), .ref (a 10), .ref (a 11), .ref (a 12), .ref (a 13), .ref (a 14), .ref (a 15), .ref (a 16), .ref (a 17), .ref (a 18), .ref (a 19), .int 0, .int 0, .int tk, .int 0, .int 0, .ref (a 25), .ref (a 26), .ref (a 27), .ref (a 28), .ref (a 29), .ref (a 30), .ref (a 31), .ref (a 32), .int 0, .ref (a 34), .ref (a 35), .ref (a 36), .ref (a 37), .int 0, .int (-1), .ref (a 40), .ref (a 41), .ref (a 42), .ref (a 43), .ref (a 44), .int 0]))] s.heap := hP
  have hl := lv_entry ([.ref h0]) (n := 3) (Nat.le_of_ble_eq_true rfl)
  rw [lg_entry_eq]
  generalize (lg_sl ([.ref h0]) ++ List.replicate (3 - (lg_sl ([.ref h0])).length) Slot.unset).toArray = ls at hl ⊢
  have hl : lv_has ls 3 [(0, .ref h0)] := hl
  refine lv_iconst (v := 1) hx hb dX9_begin_0 (by decide) ?_
  refine lv_istore_n (lv' := [(1, .int 1), (0, .ref h0)]) hx hb dX9_begin_1 rfl hl (by decide) rfl (fun ls hl => ?_)
  refine lv_iload_n hx hb dX9_begin_2 rfl (lv_at hl 0 rfl) ?_
  refine lv_if_eq (tgt := 78) hx hb dX9_begin_3 (by decide) (fun c9 => absurd c9 (by decide)) (fun _ => ?_)
  refine lv_aload_n hx hb dX9_begin_6 rfl (lv_at hl 1 rfl) ?_
  have hPc := hP.sub (ws' := [(h0, .inr (10, [.ref (a 0), .ref (a 1), .ref (a 2), .ref (a 3), .ref (a 4), .ref (a 5), .ref (a 6), .ref (a 7), .ref (a 8), .ref (a 9), .ref (a 10), .ref (a 11), .ref (a 12), .ref (a 13), .ref (a 14), .ref (a 15), .ref (a 16), .ref (a 17), .ref (a 18), .ref (a 19), .int 0, .int 0, .int tk, .int 0, .int 0, .ref (a 25), .ref (a 26), .ref (a 27), .ref (a 28), .ref (a 29), .ref (a 30), .ref (a 31), .ref (a 32), .int 0, .ref (a 34), .ref (a 35), .ref (a 36), .ref (a 37), .int 0, .int (-1), .ref (a 40), .ref (a 41), .ref (a 42), .ref (a 43), .ref (a 44), .int 0]))]) [0] rfl
  have hDc := hD.sub (ws' := [(h0, .inr (10, [.ref (a 0), .ref (a 1), .ref (a 2), .ref (a 3), .ref (a 4), .ref (a 5), .ref (a 6), .ref (a 7), .ref (a 8), .ref (a 9), .ref (a 10), .ref (a 11), .ref (a 12), .ref (a 13), .ref (a 14), .ref (a 15), .ref (a 16), .ref (a 17), .ref (a 18), .ref (a 19), .int 0, .int 0, .int tk, .int 0, .int 0, .ref (a 25), .ref (a 26), .ref (a 27), .ref (a 28), .ref (a 29), .ref (a 30), .ref (a 31), .ref (a 32), .int 0, .ref (a 34), .ref (a 35), .ref (a 36), .ref (a 37), .int 0, .int (-1), .ref (a 40), .ref (a 41), .ref (a 42), .ref (a 43), .ref (a 44), .int 0]))]) [0] (by decide) rfl
  have hKc := hK.sub (tys' := []) [] rfl
  have hFc := va_free (wc := [(h0, .inr (10, [.ref (a 0), .ref (a 1), .ref (a 2), .ref (a 3), .ref (a 4), .ref (a 5), .ref (a 6), .ref (a 7), .ref (a 8), .ref (a 9), .ref (a 10), .ref (a 11), .ref (a 12), .ref (a 13), .ref (a 14), .ref (a 15), .ref (a 16), .ref (a 17), .ref (a 18), .ref (a 19), .int 0, .int 0, .int tk, .int 0, .int 0, .ref (a 25), .ref (a 26), .ref (a 27), .ref (a 28), .ref (a 29), .ref (a 30), .ref (a 31), .ref (a 32), .int 0, .ref (a 34), .ref (a 35), .ref (a 36), .ref (a 37), .int 0, .int (-1), .ref (a 40), .ref (a 41), .ref (a 42), .ref (a 43), .ref (a 44), .int 0]))]) hD hS hA [0] rfl
  refine va_callv (va_runV (As := []) (rest := []) ⟨hx, hb, hml, hown, hts⟩ (c_endJobs l dC dI h0 a tk s.heap.size) (cwV 0 hts wc_begin_endJobs_222 rfl rfl rfl (by decide +kernel) ⟨Nat.le_of_ble_eq_true rfl, Nat.le_of_ble_eq_true rfl⟩) ⟨fun a U g mk q => by obtain ⟨q0, q1, qP, qK, qD, qN⟩ := q; exact ⟨q0, q1, qP, va_K.moved (u := U) (U := U.calling g mk a) (Vm.Alike.refl U.vm) qK, qD, pw_N.same (u := U) (U := U.calling g mk a) rfl qN⟩, va_recv hKc hPc (ci := 10) (q0 := 0) rfl rfl, fun U hU hW => ⟨rfl, by rw [hU], by rw [hU]; exact hPc, va_K.moved hW.alike hKc, hDc.weaken (fun _ _ _ _ => trivial), pw_N.warm hW hN⟩⟩ rfl rfl hl.1 rfl (lv_room (Nat.le_of_ble_eq_true rfl)) dX9_begin_7 ⟨Nat.le_of_ble_eq_true rfl, Nat.le_of_ble_eq_true rfl⟩) hS (fun q _ h => hFc q h) hFc (fun u t H1 locs ht hvm hw hB hz1 hk1 hS => ?_)
  obtain ⟨hP1, hD1⟩ := hB
  rw [ht] at hP1
  obtain ⟨hP, hD⟩ := va_join (wr := []) (w1 := [(h0, .inr (10, [.ref (a 0), .ref (a 1), .ref (a 2), .ref (a 3), .ref (a 4), .ref (a 5), .ref (a 6), .ref (a 7), .ref (a 8), .ref (a 9), .ref (a 10), .ref (a 11), .ref (a 12), .ref (a 13), .ref (a 14), .ref (a 15), .ref (a 16), .ref (a 17), .ref (a 18), .ref (a 19), .int 0, .int 0, .int tk, .int 0, .int 0, .ref (a 25), .ref (a 26), .ref (a 27), .ref (a 28), .ref (a 29), .ref (a 30), .ref (a 31), .ref (a 32), .int 0, .ref (a 34), .ref (a 35), .ref (a 36), .ref (a 37), .int 0, .int (-1), .ref (a 40), .ref (a 41), .ref (a 42), .ref (a 43), .ref (a 44), .int 0]))]) hP hD [0] [] rfl rfl (by decide) (by decide) hk1 hFc hP1 hD1
  generalize H1 = H at hP hS ⊢
  replace hP : va_P (dC, dI) vwCl [(h0, .inr (10, [.ref (a 0), .ref (a 1), .ref (a 2), .ref (a 3), .ref (a 4), .ref (a 5), .ref (a 6), .ref (a 7), .ref (a 8), .ref (a 9), .ref (a 10), .ref (a 11), .ref (a 12), .ref (a 13), .ref (a 14), .ref (a 15), .ref (a 16), .ref (a 17), .ref (a 18), .ref (a 19), .int 0, .int 0, .int tk, .int 0, .int 0, .ref (a 25), .ref (a 26), .ref (a 27), .ref (a 28), .ref (a 29), .ref (a 30), .ref (a 31), .ref (a 32), .int 0, .ref (a 34), .ref (a 35), .ref (a 36), .ref (a 37), .int 0, .int (-1), .ref (a 40), .ref (a 41), .ref (a 42), .ref (a 43), .ref (a 44), .int 0]))] H := hP
  replace hD : va_D A [(h0, .inr (10, [.ref (a 0), .ref (a 1), .ref (a 2), .ref (a 3), .ref (a 4), .ref (a 5), .ref (a 6), .ref (a 7), .ref (a 8), .ref (a 9), .ref (a 10), .ref (a 11), .ref (a 12), .ref (a 13), .ref (a 14), .ref (a 15), .ref (a 16), .ref (a 17), .ref (a 18), .ref (a 19), .int 0, .int 0, .int tk, .int 0, .int 0, .ref (a 25), .ref (a 26), .ref (a 27), .ref (a 28), .ref (a 29), .ref (a 30), .ref (a 31), .ref (a 32), .int 0, .ref (a 34), .ref (a 35), .ref (a 36), .ref (a 37), .int 0, .int (-1), .ref (a 40), .ref (a 41), .ref (a 42), .ref (a 43), .ref (a 44), .int 0]))] := hD
  try dsimp only at hw
  refine lv_iconst (v := 0) hx hb dX9_begin_10 (by decide) ?_
  refine lv_istore_n (lv' := [(2, .int 0), (1, .int 1), (0, .ref h0)]) hx hb dX9_begin_11 rfl hl (by decide) rfl (fun ls hl => ?_)
  refine lv_iload_n hx hb dX9_begin_12 rfl (lv_at hl 0 rfl) ?_
  refine lv_aload_n hx hb dX9_begin_13 rfl (lv_at hl 2 rfl) ?_
  refine va_get (D := (dC, dI)) (ci := 10) (v := .int 0) (C := RX9) (T := TX9) (N := 46) hx hb hts in_begin_X9 hown hK hP 0 rfl rfl 21 (by decide) (hts (.fieldLink RX9 126 "ServiceTreeModel" "services" "I") (by decide +kernel)) (fun _ h9 => h9) rfl dX9_begin_14 ?_
  refine lv_icmp_ge (tgt := 52) hx hb dX9_begin_17 (by decide) (fun _ => ?_) (fun c9 => absurd (by decide) c9)
  refine lv_iload_n hx hb dX9_begin_52 rfl (lv_at hl 0 rfl) ?_
  refine lv_aload_n hx hb dX9_begin_53 rfl (lv_at hl 2 rfl) ?_
  refine va_get (D := (dC, dI)) (ci := 10) (v := .int 0) (C := RX9) (T := TX9) (N := 46) hx hb hts in_begin_X9 hown hK hP 0 rfl rfl 21 (by decide) (hts (.fieldLink RX9 126 "ServiceTreeModel" "services" "I") (by decide +kernel)) (fun _ h9 => h9) rfl dX9_begin_54 ?_
  refine lv_icmp_ge (tgt := 64) hx hb dX9_begin_57 (by decide) (fun _ => ?_) (fun c9 => absurd (by decide) c9)
  refine lv_iconst (v := 0) hx hb dX9_begin_64 (by decide) ?_
  refine lv_istore_n (lv' := [(1, .int 0), (2, .int 0), (0, .ref h0)]) hx hb dX9_begin_65 rfl hl (by decide) rfl (fun ls hl => ?_)
  refine lv_iload_n hx hb dX9_begin_66 rfl (lv_at hl 0 rfl) ?_
  refine lv_if_eq (tgt := 75) hx hb dX9_begin_67 (by decide) (fun _ => ?_) (fun c9 => absurd (by decide) c9)
  refine lv_goto (tgt := 2) hx hb dX9_begin_75 (by decide) ?_
  refine lv_iload_n hx hb dX9_begin_2 rfl (lv_at hl 0 rfl) ?_
  refine lv_if_eq (tgt := 78) hx hb dX9_begin_3 (by decide) (fun _ => ?_) (fun c9 => absurd (by decide) c9)
  have hP9 := hP.sub (ws' := [(h0, .inr (10, [.ref (a 0), .ref (a 1), .ref (a 2), .ref (a 3), .ref (a 4), .ref (a 5), .ref (a 6), .ref (a 7), .ref (a 8), .ref (a 9), .ref (a 10), .ref (a 11), .ref (a 12), .ref (a 13), .ref (a 14), .ref (a 15), .ref (a 16), .ref (a 17), .ref (a 18), .ref (a 19), .int 0, .int 0, .int tk, .int 0, .int 0, .ref (a 25), .ref (a 26), .ref (a 27), .ref (a 28), .ref (a 29), .ref (a 30), .ref (a 31), .ref (a 32), .int 0, .ref (a 34), .ref (a 35), .ref (a 36), .ref (a 37), .int 0, .int (-1), .ref (a 40), .ref (a 41), .ref (a 42), .ref (a 43), .ref (a 44), .int 0]))]) [0] rfl
  have hD9 := hD.sub (ws' := [(h0, .inr (10, [.ref (a 0), .ref (a 1), .ref (a 2), .ref (a 3), .ref (a 4), .ref (a 5), .ref (a 6), .ref (a 7), .ref (a 8), .ref (a 9), .ref (a 10), .ref (a 11), .ref (a 12), .ref (a 13), .ref (a 14), .ref (a 15), .ref (a 16), .ref (a 17), .ref (a 18), .ref (a 19), .int 0, .int 0, .int tk, .int 0, .int 0, .ref (a 25), .ref (a 26), .ref (a 27), .ref (a 28), .ref (a 29), .ref (a 30), .ref (a 31), .ref (a 32), .int 0, .ref (a 34), .ref (a 35), .ref (a 36), .ref (a 37), .int 0, .int (-1), .ref (a 40), .ref (a 41), .ref (a 42), .ref (a 43), .ref (a 44), .int 0]))]) [0] (by decide) rfl
  exact W.vret hx hb hr (fun t ht hW => ⟨⟨(), rfl, trivial, by rw [ht]; exact hP9, hD9⟩, hS.F ht⟩) hS.2.2 dX9_begin_78
def wq_oneTick : List Cond := [.code yX9_oneTick cX9_oneTick 4 none, .fieldLink RX9 129 "ServiceTreeModel" "tick" "I", .fieldLink RX9 126 "ServiceTreeModel" "services" "I", .methodLink RX9 215 yX9_begin, .instanceMethod yX9_begin, .selects RX9 yX9_begin yX9_begin, .initialized RX9] ++ (wsX90 ++ (wq_begin))
theorem in_oneTick_X9 : ∀ w ∈ wsX90, w ∈ wq_oneTick := fun _ h => List.mem_append_right _ (List.mem_append_left _ (h))
set_option maxRecDepth 20000 in
theorem wi_oneTick : ∀ w ∈ wq_oneTick, w ∈ lw_tbl := List.forall_mem_append.mpr ⟨(by decide +kernel), List.forall_mem_append.mpr ⟨inKX9, wi_begin⟩⟩
set_option maxRecDepth 20000 in
theorem wg_oneTick : GoodIn wq_oneTick wq_oneTick := goodIn_sub (fun _ h => h) (by decide +kernel)
set_option maxRecDepth 20000 in
theorem wc_oneTick_begin_215 : GoodIn wq_oneTick (wsV RX9 215 RX9 yX9_begin wq_begin) := goodIn_app (goodIn_of _ (by decide +kernel)) (fun w h => ⟨List.mem_append_right _ (List.mem_append_right _ (h)), (wg_begin w h).2⟩)
set_option maxHeartbeats 4000000 in
set_option maxRecDepth 100000 in
theorem c_oneTick (l : Launch) (dC : Nat → ClassId) (dI : Nat → Nat → Nat) (h0 : Nat) (a : Nat → Nat) (tk : Int32) (sz : Nat) : Met l yX9_oneTick wq_oneTick ({ frames := 2, cells := 0, slots := 0, locals := 43 }) (va_Pc [.ref h0] (fun U => U.heap.size = sz ∧ va_P (dC, dI) vwCl [(h0, .inr (10, [.ref (a 0), .ref (a 1), .ref (a 2), .ref (a 3), .ref (a 4), .ref (a 5), .ref (a 6), .ref (a 7), .ref (a 8), .ref (a 9), .ref (a 10), .ref (a 11), .ref (a 12), .ref (a 13), .ref (a 14), .ref (a 15), .ref (a 16), .ref (a 17), .ref (a 18), .ref (a 19), .int 0, .int 0, .int tk, .int 0, .int 0, .ref (a 25), .ref (a 26), .ref (a 27), .ref (a 28), .ref (a 29), .ref (a 30), .ref (a 31), .ref (a 32), .int 0, .ref (a 34), .ref (a 35), .ref (a 36), .ref (a 37), .int 0, .int (-1), .ref (a 40), .ref (a 41), .ref (a 42), .ref (a 43), .ref (a 44), .int 0]))] U.heap ∧ va_K (dC, dI) vwCl [] U ∧ va_D (fun _ => True) [(h0, .inr (10, [.ref (a 0), .ref (a 1), .ref (a 2), .ref (a 3), .ref (a 4), .ref (a 5), .ref (a 6), .ref (a 7), .ref (a 8), .ref (a 9), .ref (a 10), .ref (a 11), .ref (a 12), .ref (a 13), .ref (a 14), .ref (a 15), .ref (a 16), .ref (a 17), .ref (a 18), .ref (a 19), .int 0, .int 0, .int tk, .int 0, .int 0, .ref (a 25), .ref (a 26), .ref (a 27), .ref (a 28), .ref (a 29), .ref (a 30), .ref (a 31), .ref (a 32), .int 0, .ref (a 34), .ref (a 35), .ref (a 36), .ref (a 37), .int 0, .int (-1), .ref (a 40), .ref (a 41), .ref (a 42), .ref (a 43), .ref (a 44), .int 0]))] ∧ pw_N U)) (va_Qv (fun (_ : Unit) => True) (fun (_ : Unit) (t : State) => va_P (dC, dI) vwCl [(h0, .inr (10, [.ref (a 0), .ref (a 1), .ref (a 2), .ref (a 3), .ref (a 4), .ref (a 5), .ref (a 6), .ref (a 7), .ref (a 8), .ref (a 9), .ref (a 10), .ref (a 11), .ref (a 12), .ref (a 13), .ref (a 14), .ref (a 15), .ref (a 16), .ref (a 17), .ref (a 18), .ref (a 19), .int 0, .int 0, .int (tk + 1), .int 0, .int 0, .ref (a 25), .ref (a 26), .ref (a 27), .ref (a 28), .ref (a 29), .ref (a 30), .ref (a 31), .ref (a 32), .int 0, .ref (a 34), .ref (a 35), .ref (a 36), .ref (a 37), .int 0, .int (-1), .ref (a 40), .ref (a 41), .ref (a 42), .ref (a 43), .ref (a 44), .int 0]))] t.heap ∧ va_D (va_A [(h0, .inr (10, [.ref (a 0), .ref (a 1), .ref (a 2), .ref (a 3), .ref (a 4), .ref (a 5), .ref (a 6), .ref (a 7), .ref (a 8), .ref (a 9), .ref (a 10), .ref (a 11), .ref (a 12), .ref (a 13), .ref (a 14), .ref (a 15), .ref (a 16), .ref (a 17), .ref (a 18), .ref (a 19), .int 0, .int 0, .int tk, .int 0, .int 0, .ref (a 25), .ref (a 26), .ref (a 27), .ref (a 28), .ref (a 29), .ref (a 30), .ref (a 31), .ref (a 32), .int 0, .ref (a 34), .ref (a 35), .ref (a 36), .ref (a 37), .int 0, .int (-1), .ref (a 40), .ref (a 41), .ref (a 42), .ref (a 43), .ref (a 44), .int 0]))] sz) [(h0, .inr (10, [.ref (a 0), .ref (a 1), .ref (a 2), .ref (a 3), .ref (a 4), .ref (a 5), .ref (a 6), .ref (a 7), .ref (a 8), .ref (a 9), .ref (a 10), .ref (a 11), .ref (a 12), .ref (a 13), .ref (a 14), .ref (a 15), .ref (a 16), .ref (a 17), .ref (a 18), .ref (a 19), .int 0, .int 0, .int (tk + 1), .int 0, .int 0, .ref (a 25), .ref (a 26), .ref (a 27), .ref (a 28), .ref (a 29), .ref (a 30), .ref (a 31), .ref (a 32), .int 0, .ref (a 34), .ref (a 35), .ref (a 36), .ref (a 37), .int 0, .int (-1), .ref (a 40), .ref (a 41), .ref (a 42), .ref (a 43), .ref (a 44), .int 0]))]) (va_A [(h0, .inr (10, [.ref (a 0), .ref (a 1), .ref (a 2), .ref (a 3), .ref (a 4), .ref (a 5), .ref (a 6), .ref (a 7), .ref (a 8), .ref (a 9), .ref (a 10), .ref (a 11), .ref (a 12), .ref (a 13), .ref (a 14), .ref (a 15), .ref (a 16), .ref (a 17), .ref (a 18), .ref (a 19), .int 0, .int 0, .int tk, .int 0, .int 0, .ref (a 25), .ref (a 26), .ref (a 27), .ref (a 28), .ref (a 29), .ref (a 30), .ref (a 31), .ref (a 32), .int 0, .ref (a 34), .ref (a 35), .ref (a 36), .ref (a 37), .int 0, .int (-1), .ref (a 40), .ref (a 41), .ref (a 42), .ref (a 43), .ref (a 44), .int 0]))] sz)) 0 0 (va_A [(h0, .inr (10, [.ref (a 0), .ref (a 1), .ref (a 2), .ref (a 3), .ref (a 4), .ref (a 5), .ref (a 6), .ref (a 7), .ref (a 8), .ref (a 9), .ref (a 10), .ref (a 11), .ref (a 12), .ref (a 13), .ref (a 14), .ref (a 15), .ref (a 16), .ref (a 17), .ref (a 18), .ref (a 19), .int 0, .int 0, .int tk, .int 0, .int 0, .ref (a 25), .ref (a 26), .ref (a 27), .ref (a 28), .ref (a 29), .ref (a 30), .ref (a 31), .ref (a 32), .int 0, .ref (a 34), .ref (a 35), .ref (a 36), .ref (a 37), .int 0, .int (-1), .ref (a 40), .ref (a 41), .ref (a 42), .ref (a 43), .ref (a 44), .int 0]))] sz) := by
  refine Met.ofW (cc := cX9_oneTick) (maxL := 4) (ret := none) (by decide) rfl ?_
  intro p e s m args below meth c s₁ B hml hv
  obtain ⟨rfl, hsz, hP, hK, hD0, hN⟩ := hv
  have hx := B.exec
  have hb := B.bytes
  have hr := B.returns
  have hts := atoms_spec (ws := wq_oneTick) B.pre
  have hown : s.vm.findClass RX9 = some m.cls := findClass_of_methodNamed B.named
  have hlocks := B.notSynchronized
  subst hsz
  have hD := hD0.self (sz := s.heap.size)
  generalize hAe : va_A [(h0, .inr (10, [.ref (a 0), .ref (a 1), .ref (a 2), .ref (a 3), .ref (a 4), .ref (a 5), .ref (a 6), .ref (a 7), .ref (a 8), .ref (a 9), .ref (a 10), .ref (a 11), .ref (a 12), .ref (a 13), .ref (a 14), .ref (a 15), .ref (a 16), .ref (a 17), .ref (a 18), .ref (a 19), .int 0, .int 0, .int tk, .int 0, .int 0, .ref (a 25), .ref (a 26), .ref (a 27), .ref (a 28), .ref (a 29), .ref (a 30), .ref (a 31), .ref (a 32), .int 0, .ref (a 34), .ref (a 35), .ref (a 36), .ref (a 37), .int 0, .int (-1), .ref (a 40), .ref (a 41), .ref (a 42), .ref (a 43), .ref (a 44), .int 0]))] s.heap.size = A at hD ⊢
  have hA : ∀ q : Nat, s.heap.size ≤ q → A q := fun q h => by rw [← hAe]; exact Or.inr h
  have hS : va_S A s.heap s.heap [] := va_S.rf
  have hP : va_P (dC, dI) vwCl [(h0, .inr (10, [.ref (a 0), .ref (a 1), .ref (a 2), .ref (a 3), .ref (a 4), .ref (a 5), .ref (a 6), .ref (a 7), .ref (a 8), .ref (a 9), .ref (a 10), .ref (a 11), .ref (a 12), .ref (a 13), .ref (a 14), .ref (a 15), .ref (a 16), .ref (a 17), .ref (a 18), .ref (a 19), .int 0, .int 0, .int tk, .int 0, .int 0, .ref (a 25), .ref (a 26), .ref (a 27), .ref (a 28), .ref (a 29), .ref (a 30), .ref (a 31), .ref (a 32), .int 0, .ref (a 34), .ref (a 35), .ref (a 36), .ref (a 37), .int 0, .int (-1), .ref (a 40), .ref (a 41), .ref (a 42), .ref (a 43), .ref (a 44), .int 0]))] s.heap := hP
  have hl := lv_entry ([.ref h0]) (n := 4) (Nat.le_of_ble_eq_true rfl)
  rw [lg_entry_eq]
  generalize (lg_sl ([.ref h0]) ++ List.replicate (4 - (lg_sl ([.ref h0])).length) Slot.unset).toArray = ls at hl ⊢
  have hl : lv_has ls 4 [(0, .ref h0)] := hl
  refine lv_aload_n hx hb dX9_oneTick_0 rfl (lv_at hl 0 rfl) ?_
  refine lv_dup hx hb dX9_oneTick_1 rfl ?_
  refine va_get (D := (dC, dI)) (ci := 10) (v := .int tk) (C := RX9) (T := TX9) (N := 46) hx hb hts in_oneTick_X9 hown hK hP 0 rfl rfl 22 (by decide) (hts (.fieldLink RX9 129 "ServiceTreeModel" "tick" "I") (by decide +kernel)) (fun _ h9 => h9) rfl dX9_oneTick_2 ?_
  refine lv_iconst (v := 1) hx hb dX9_oneTick_5 (by decide) ?_
  refine lv_iadd hx hb dX9_oneTick_6 ?_
  refine va_put (D := (dC, dI)) (ci := 10) (v := .int (tk + 1)) (ty := .int) (C := RX9) (T := TX9) (N := 46) hx hb hts in_oneTick_X9 tyX9 tyX9_ok nmX9 hown hK hP hD hS 0 rfl rfl 22 (by decide) (hts (.fieldLink RX9 129 "ServiceTreeModel" "tick" "I") (by decide +kernel)) (fun _ h9 => h9) rfl (by decide +kernel) rfl rfl (Nat.le_of_ble_eq_true rfl) dX9_oneTick_7 (fun H locs hP hD hS => ?_)
  replace hP : va_P (dC, dI) vwCl [(h0, .inr (10, [.ref (a 0), .ref (a 1), .ref (a 2), .ref (a 3), .ref (a 4), .ref (a 5), .ref (a 6), .ref (a 7), .ref (a 8), .ref (a 9), .ref (a 10), .ref (a 11), .ref (a 12), .ref (a 13), .ref (a 14), .ref (a 15), .ref (a 16), .ref (a 17), .ref (a 18), .ref (a 19), .int 0, .int 0, .int (tk + 1), .int 0, .int 0, .ref (a 25), .ref (a 26), .ref (a 27), .ref (a 28), .ref (a 29), .ref (a 30), .ref (a 31), .ref (a 32), .int 0, .ref (a 34), .ref (a 35), .ref (a 36), .ref (a 37), .int 0, .int (-1), .ref (a 40), .ref (a 41), .ref (a 42), .ref (a 43), .ref (a 44), .int 0]))] H := hP
  replace hD : va_D A [(h0, .inr (10, [.ref (a 0), .ref (a 1), .ref (a 2), .ref (a 3), .ref (a 4), .ref (a 5), .ref (a 6), .ref (a 7), .ref (a 8), .ref (a 9), .ref (a 10), .ref (a 11), .ref (a 12), .ref (a 13), .ref (a 14), .ref (a 15), .ref (a 16), .ref (a 17), .ref (a 18), .ref (a 19), .int 0, .int 0, .int (tk + 1), .int 0, .int 0, .ref (a 25), .ref (a 26), .ref (a 27), .ref (a 28), .ref (a 29), .ref (a 30), .ref (a 31), .ref (a 32), .int 0, .ref (a 34), .ref (a 35), .ref (a 36), .ref (a 37), .int 0, .int (-1), .ref (a 40), .ref (a 41), .ref (a 42), .ref (a 43), .ref (a 44), .int 0]))] := hD
  refine lv_iconst (v := 0) hx hb dX9_oneTick_10 (by decide) ?_
  refine lv_istore_n (lv' := [(1, .int 0), (0, .ref h0)]) hx hb dX9_oneTick_11 rfl hl (by decide) rfl (fun ls hl => ?_)
  refine lv_iload_n hx hb dX9_oneTick_12 rfl (lv_at hl 0 rfl) ?_
  refine lv_aload_n hx hb dX9_oneTick_13 rfl (lv_at hl 1 rfl) ?_
  refine va_get (D := (dC, dI)) (ci := 10) (v := .int 0) (C := RX9) (T := TX9) (N := 46) hx hb hts in_oneTick_X9 hown hK hP 0 rfl rfl 21 (by decide) (hts (.fieldLink RX9 126 "ServiceTreeModel" "services" "I") (by decide +kernel)) (fun _ h9 => h9) rfl dX9_oneTick_14 ?_
  refine lv_icmp_ge (tgt := 31) hx hb dX9_oneTick_17 (by decide) (fun _ => ?_) (fun c9 => absurd (by decide) c9)
  refine lv_iconst (v := 0) hx hb dX9_oneTick_31 (by decide) ?_
  refine lv_istore_n (lv' := [(1, .int 0), (0, .ref h0)]) hx hb dX9_oneTick_32 rfl hl (by decide) rfl (fun ls hl => ?_)
  refine lv_iload_n hx hb dX9_oneTick_33 rfl (lv_at hl 0 rfl) ?_
  refine lv_aload_n hx hb dX9_oneTick_34 rfl (lv_at hl 1 rfl) ?_
  refine va_get (D := (dC, dI)) (ci := 10) (v := .int 0) (C := RX9) (T := TX9) (N := 46) hx hb hts in_oneTick_X9 hown hK hP 0 rfl rfl 21 (by decide) (hts (.fieldLink RX9 126 "ServiceTreeModel" "services" "I") (by decide +kernel)) (fun _ h9 => h9) rfl dX9_oneTick_35 ?_
  refine lv_icmp_ge (tgt := 99) hx hb dX9_oneTick_38 (by decide) (fun _ => ?_) (fun c9 => absurd (by decide) c9)
  refine lv_iconst (v := 0) hx hb dX9_oneTick_99 (by decide) ?_
  refine lv_istore_n (lv' := [(2, .int 0), (1, .int 0), (0, .ref h0)]) hx hb dX9_oneTick_100 rfl hl (by decide) rfl (fun ls hl => ?_)
  refine lv_iload_n hx hb dX9_oneTick_101 rfl (lv_at hl 0 rfl) ?_
  refine lv_aload_n hx hb dX9_oneTick_102 rfl (lv_at hl 2 rfl) ?_
  refine va_get (D := (dC, dI)) (ci := 10) (v := .int 0) (C := RX9) (T := TX9) (N := 46) hx hb hts in_oneTick_X9 hown hK hP 0 rfl rfl 21 (by decide) (hts (.fieldLink RX9 126 "ServiceTreeModel" "services" "I") (by decide +kernel)) (fun _ h9 => h9) rfl dX9_oneTick_103 ?_
  refine lv_icmp_ge (tgt := 231) hx hb dX9_oneTick_106 (by decide) (fun _ => ?_) (fun c9 => absurd (by decide) c9)
  refine lv_aload_n hx hb dX9_oneTick_231 rfl (lv_at hl 2 rfl) ?_
  have hPc := hP.sub (ws' := [(h0, .inr (10, [.ref (a 0), .ref (a 1), .ref (a 2), .ref (a 3), .ref (a 4), .ref (a 5), .ref (a 6), .ref (a 7), .ref (a 8), .ref (a 9), .ref (a 10), .ref (a 11), .ref (a 12), .ref (a 13), .ref (a 14), .ref (a 15), .ref (a 16), .ref (a 17), .ref (a 18), .ref (a 19), .int 0, .int 0, .int (tk + 1), .int 0, .int 0, .ref (a 25), .ref (a 26), .ref (a 27), .ref (a 28), .ref (a 29), .ref (a 30), .ref (a 31), .ref (a 32), .int 0, .ref (a 34), .ref (a 35), .ref (a 36), .ref (a 37), .int 0, .int (-1), .ref (a 40), .ref (a 41), .ref (a 42), .ref (a 43), .ref (a 44), .int 0]))]) [0] rfl
  have hDc := hD.sub (ws' := [(h0, .inr (10, [.ref (a 0), .ref (a 1), .ref (a 2), .ref (a 3), .ref (a 4), .ref (a 5), .ref (a 6), .ref (a 7), .ref (a 8), .ref (a 9), .ref (a 10), .ref (a 11), .ref (a 12), .ref (a 13), .ref (a 14), .ref (a 15), .ref (a 16), .ref (a 17), .ref (a 18), .ref (a 19), .int 0, .int 0, .int (tk + 1), .int 0, .int 0, .ref (a 25), .ref (a 26), .ref (a 27), .ref (a 28), .ref (a 29), .ref (a 30), .ref (a 31), .ref (a 32), .int 0, .ref (a 34), .ref (a 35), .ref (a 36), .ref (a 37), .int 0, .int (-1), .ref (a 40), .ref (a 41), .ref (a 42), .ref (a 43), .ref (a 44), .int 0]))]) [0] (by decide) rfl
  have hKc := hK.sub (tys' := []) [] rfl
  have hFc := va_free (wc := [(h0, .inr (10, [.ref (a 0), .ref (a 1), .ref (a 2), .ref (a 3), .ref (a 4), .ref (a 5), .ref (a 6), .ref (a 7), .ref (a 8), .ref (a 9), .ref (a 10), .ref (a 11), .ref (a 12), .ref (a 13), .ref (a 14), .ref (a 15), .ref (a 16), .ref (a 17), .ref (a 18), .ref (a 19), .int 0, .int 0, .int (tk + 1), .int 0, .int 0, .ref (a 25), .ref (a 26), .ref (a 27), .ref (a 28), .ref (a 29), .ref (a 30), .ref (a 31), .ref (a 32), .int 0, .ref (a 34), .ref (a 35), .ref (a 36), .ref (a 37), .int 0, .int (-1), .ref (a 40), .ref (a 41), .ref (a 42), .ref (a 43), .ref (a 44), .int 0]))]) hD hS hA [0] rfl
  refine va_callv (va_runV (As := []) (rest := []) ⟨hx, hb, hml, hown, hts⟩ (c_begin l dC dI h0 a (tk + 1) H.size) (cwV 0 hts wc_oneTick_begin_215 rfl rfl rfl (by decide +kernel) ⟨Nat.le_of_ble_eq_true rfl, Nat.le_of_ble_eq_true rfl⟩) ⟨fun a U g mk q => by obtain ⟨q0, q1, qP, qK, qD, qN⟩ := q; exact ⟨q0, q1, qP, va_K.moved (u := U) (U := U.calling g mk a) (Vm.Alike.refl U.vm) qK, qD, pw_N.same (u := U) (U := U.calling g mk a) rfl qN⟩, va_recv hKc hPc (ci := 10) (q0 := 0) rfl rfl, fun U hU hW => ⟨rfl, by rw [hU], by rw [hU]; exact hPc, va_K.moved hW.alike hKc, hDc.weaken (fun _ _ _ _ => trivial), pw_N.warm hW hN⟩⟩ rfl rfl hl.1 rfl (lv_room (Nat.le_of_ble_eq_true rfl)) dX9_oneTick_232 ⟨Nat.le_of_ble_eq_true rfl, Nat.le_of_ble_eq_true rfl⟩) hS (fun q _ h => hFc q h) hFc (fun u t H1 locs ht hvm hw hB hz1 hk1 hS => ?_)
  obtain ⟨hP1, hD1⟩ := hB
  rw [ht] at hP1
  obtain ⟨hP, hD⟩ := va_join (wr := []) (w1 := [(h0, .inr (10, [.ref (a 0), .ref (a 1), .ref (a 2), .ref (a 3), .ref (a 4), .ref (a 5), .ref (a 6), .ref (a 7), .ref (a 8), .ref (a 9), .ref (a 10), .ref (a 11), .ref (a 12), .ref (a 13), .ref (a 14), .ref (a 15), .ref (a 16), .ref (a 17), .ref (a 18), .ref (a 19), .int 0, .int 0, .int (tk + 1), .int 0, .int 0, .ref (a 25), .ref (a 26), .ref (a 27), .ref (a 28), .ref (a 29), .ref (a 30), .ref (a 31), .ref (a 32), .int 0, .ref (a 34), .ref (a 35), .ref (a 36), .ref (a 37), .int 0, .int (-1), .ref (a 40), .ref (a 41), .ref (a 42), .ref (a 43), .ref (a 44), .int 0]))]) hP hD [0] [] rfl rfl (by decide) (by decide) hk1 hFc hP1 hD1
  generalize H1 = H at hP hS ⊢
  replace hP : va_P (dC, dI) vwCl [(h0, .inr (10, [.ref (a 0), .ref (a 1), .ref (a 2), .ref (a 3), .ref (a 4), .ref (a 5), .ref (a 6), .ref (a 7), .ref (a 8), .ref (a 9), .ref (a 10), .ref (a 11), .ref (a 12), .ref (a 13), .ref (a 14), .ref (a 15), .ref (a 16), .ref (a 17), .ref (a 18), .ref (a 19), .int 0, .int 0, .int (tk + 1), .int 0, .int 0, .ref (a 25), .ref (a 26), .ref (a 27), .ref (a 28), .ref (a 29), .ref (a 30), .ref (a 31), .ref (a 32), .int 0, .ref (a 34), .ref (a 35), .ref (a 36), .ref (a 37), .int 0, .int (-1), .ref (a 40), .ref (a 41), .ref (a 42), .ref (a 43), .ref (a 44), .int 0]))] H := hP
  replace hD : va_D A [(h0, .inr (10, [.ref (a 0), .ref (a 1), .ref (a 2), .ref (a 3), .ref (a 4), .ref (a 5), .ref (a 6), .ref (a 7), .ref (a 8), .ref (a 9), .ref (a 10), .ref (a 11), .ref (a 12), .ref (a 13), .ref (a 14), .ref (a 15), .ref (a 16), .ref (a 17), .ref (a 18), .ref (a 19), .int 0, .int 0, .int (tk + 1), .int 0, .int 0, .ref (a 25), .ref (a 26), .ref (a 27), .ref (a 28), .ref (a 29), .ref (a 30), .ref (a 31), .ref (a 32), .int 0, .ref (a 34), .ref (a 35), .ref (a 36), .ref (a 37), .int 0, .int (-1), .ref (a 40), .ref (a 41), .ref (a 42), .ref (a 43), .ref (a 44), .int 0]))] := hD
  try dsimp only at hw
  have hP9 := hP.sub (ws' := [(h0, .inr (10, [.ref (a 0), .ref (a 1), .ref (a 2), .ref (a 3), .ref (a 4), .ref (a 5), .ref (a 6), .ref (a 7), .ref (a 8), .ref (a 9), .ref (a 10), .ref (a 11), .ref (a 12), .ref (a 13), .ref (a 14), .ref (a 15), .ref (a 16), .ref (a 17), .ref (a 18), .ref (a 19), .int 0, .int 0, .int (tk + 1), .int 0, .int 0, .ref (a 25), .ref (a 26), .ref (a 27), .ref (a 28), .ref (a 29), .ref (a 30), .ref (a 31), .ref (a 32), .int 0, .ref (a 34), .ref (a 35), .ref (a 36), .ref (a 37), .int 0, .int (-1), .ref (a 40), .ref (a 41), .ref (a 42), .ref (a 43), .ref (a 44), .int 0]))]) [0] rfl
  have hD9 := hD.sub (ws' := [(h0, .inr (10, [.ref (a 0), .ref (a 1), .ref (a 2), .ref (a 3), .ref (a 4), .ref (a 5), .ref (a 6), .ref (a 7), .ref (a 8), .ref (a 9), .ref (a 10), .ref (a 11), .ref (a 12), .ref (a 13), .ref (a 14), .ref (a 15), .ref (a 16), .ref (a 17), .ref (a 18), .ref (a 19), .int 0, .int 0, .int (tk + 1), .int 0, .int 0, .ref (a 25), .ref (a 26), .ref (a 27), .ref (a 28), .ref (a 29), .ref (a 30), .ref (a 31), .ref (a 32), .int 0, .ref (a 34), .ref (a 35), .ref (a 36), .ref (a 37), .int 0, .int (-1), .ref (a 40), .ref (a 41), .ref (a 42), .ref (a 43), .ref (a 44), .int 0]))]) [0] (by decide) rfl
  exact W.vret hx hb hr (fun t ht hW => ⟨⟨(), rfl, trivial, by rw [ht]; exact hP9, hD9⟩, hS.F ht⟩) hS.2.2 dX9_oneTick_235
def wq_m_tick : List Cond := [.code yX9_tick cX9_tick 3 (some .int), .fieldLink RX9 129 "ServiceTreeModel" "tick" "I", .methodLink RX9 246 yX9_oneTick, .instanceMethod yX9_oneTick, .selects RX9 yX9_oneTick yX9_oneTick, .initialized RX9] ++ (wsX90 ++ (wq_oneTick))
theorem in_m_tick_X9 : ∀ w ∈ wsX90, w ∈ wq_m_tick := fun _ h => List.mem_append_right _ (List.mem_append_left _ (h))
set_option maxRecDepth 20000 in
theorem wi_m_tick : ∀ w ∈ wq_m_tick, w ∈ lw_tbl := List.forall_mem_append.mpr ⟨(by decide +kernel), List.forall_mem_append.mpr ⟨inKX9, wi_oneTick⟩⟩
set_option maxRecDepth 20000 in
theorem wg_m_tick : GoodIn wq_m_tick wq_m_tick := goodIn_sub (fun _ h => h) (by decide +kernel)
set_option maxRecDepth 20000 in
theorem wc_m_tick_oneTick_246 : GoodIn wq_m_tick (wsV RX9 246 RX9 yX9_oneTick wq_oneTick) := goodIn_app (goodIn_of _ (by decide +kernel)) (fun w h => ⟨List.mem_append_right _ (List.mem_append_right _ (h)), (wg_oneTick w h).2⟩)
set_option maxHeartbeats 4000000 in
set_option maxRecDepth 100000 in
theorem c_m_tick (l : Launch) (dC : Nat → ClassId) (dI : Nat → Nat → Nat) (h0 : Nat) (a : Nat → Nat) (p0 : Int32) (sz : Nat) : Met l yX9_tick wq_m_tick ({ frames := 3, cells := 0, slots := 0, locals := 66 }) (va_Pc [.ref h0, .int p0] (fun U => U.heap.size = sz ∧ va_P (dC, dI) vwCl [(h0, .inr (10, [.ref (a 0), .ref (a 1), .ref (a 2), .ref (a 3), .ref (a 4), .ref (a 5), .ref (a 6), .ref (a 7), .ref (a 8), .ref (a 9), .ref (a 10), .ref (a 11), .ref (a 12), .ref (a 13), .ref (a 14), .ref (a 15), .ref (a 16), .ref (a 17), .ref (a 18), .ref (a 19), .int 0, .int 0, .int 0, .int 0, .int 0, .ref (a 25), .ref (a 26), .ref (a 27), .ref (a 28), .ref (a 29), .ref (a 30), .ref (a 31), .ref (a 32), .int 0, .ref (a 34), .ref (a 35), .ref (a 36), .ref (a 37), .int 0, .int (-1), .ref (a 40), .ref (a 41), .ref (a 42), .ref (a 43), .ref (a 44), .int 0]))] U.heap ∧ va_K (dC, dI) vwCl [] U ∧ va_D (fun _ => True) [(h0, .inr (10, [.ref (a 0), .ref (a 1), .ref (a 2), .ref (a 3), .ref (a 4), .ref (a 5), .ref (a 6), .ref (a 7), .ref (a 8), .ref (a 9), .ref (a 10), .ref (a 11), .ref (a 12), .ref (a 13), .ref (a 14), .ref (a 15), .ref (a 16), .ref (a 17), .ref (a 18), .ref (a 19), .int 0, .int 0, .int 0, .int 0, .int 0, .ref (a 25), .ref (a 26), .ref (a 27), .ref (a 28), .ref (a 29), .ref (a 30), .ref (a 31), .ref (a 32), .int 0, .ref (a 34), .ref (a 35), .ref (a 36), .ref (a 37), .int 0, .int (-1), .ref (a 40), .ref (a 41), .ref (a 42), .ref (a 43), .ref (a 44), .int 0]))] ∧ pw_N U)) (va_Qi (fun (r : Int32) (_ : Unit) => r = if 1 ≤ p0 ∧ p0 ≤ 1000 then p0 else -1) (fun (_ : Unit) (t : State) => True) (va_A [(h0, .inr (10, [.ref (a 0), .ref (a 1), .ref (a 2), .ref (a 3), .ref (a 4), .ref (a 5), .ref (a 6), .ref (a 7), .ref (a 8), .ref (a 9), .ref (a 10), .ref (a 11), .ref (a 12), .ref (a 13), .ref (a 14), .ref (a 15), .ref (a 16), .ref (a 17), .ref (a 18), .ref (a 19), .int 0, .int 0, .int 0, .int 0, .int 0, .ref (a 25), .ref (a 26), .ref (a 27), .ref (a 28), .ref (a 29), .ref (a 30), .ref (a 31), .ref (a 32), .int 0, .ref (a 34), .ref (a 35), .ref (a 36), .ref (a 37), .int 0, .int (-1), .ref (a 40), .ref (a 41), .ref (a 42), .ref (a 43), .ref (a 44), .int 0]))] sz)) 0 0 (va_A [(h0, .inr (10, [.ref (a 0), .ref (a 1), .ref (a 2), .ref (a 3), .ref (a 4), .ref (a 5), .ref (a 6), .ref (a 7), .ref (a 8), .ref (a 9), .ref (a 10), .ref (a 11), .ref (a 12), .ref (a 13), .ref (a 14), .ref (a 15), .ref (a 16), .ref (a 17), .ref (a 18), .ref (a 19), .int 0, .int 0, .int 0, .int 0, .int 0, .ref (a 25), .ref (a 26), .ref (a 27), .ref (a 28), .ref (a 29), .ref (a 30), .ref (a 31), .ref (a 32), .int 0, .ref (a 34), .ref (a 35), .ref (a 36), .ref (a 37), .int 0, .int (-1), .ref (a 40), .ref (a 41), .ref (a 42), .ref (a 43), .ref (a 44), .int 0]))] sz) := by
  refine Met.ofW (cc := cX9_tick) (maxL := 3) (ret := (some .int)) (by decide) rfl ?_
  intro p e s m args below meth c s₁ B hml hv
  obtain ⟨rfl, hsz, hP, hK, hD0, hN⟩ := hv
  have hx := B.exec
  have hb := B.bytes
  have hr := B.returns
  have hts := atoms_spec (ws := wq_m_tick) B.pre
  have hown : s.vm.findClass RX9 = some m.cls := findClass_of_methodNamed B.named
  have hlocks := B.notSynchronized
  subst hsz
  have hD := hD0.self (sz := s.heap.size)
  generalize hAe : va_A [(h0, .inr (10, [.ref (a 0), .ref (a 1), .ref (a 2), .ref (a 3), .ref (a 4), .ref (a 5), .ref (a 6), .ref (a 7), .ref (a 8), .ref (a 9), .ref (a 10), .ref (a 11), .ref (a 12), .ref (a 13), .ref (a 14), .ref (a 15), .ref (a 16), .ref (a 17), .ref (a 18), .ref (a 19), .int 0, .int 0, .int 0, .int 0, .int 0, .ref (a 25), .ref (a 26), .ref (a 27), .ref (a 28), .ref (a 29), .ref (a 30), .ref (a 31), .ref (a 32), .int 0, .ref (a 34), .ref (a 35), .ref (a 36), .ref (a 37), .int 0, .int (-1), .ref (a 40), .ref (a 41), .ref (a 42), .ref (a 43), .ref (a 44), .int 0]))] s.heap.size = A at hD ⊢
  have hA : ∀ q : Nat, s.heap.size ≤ q → A q := fun q h => by rw [← hAe]; exact Or.inr h
  have hS : va_S A s.heap s.heap [] := va_S.rf
  have hP : va_P (dC, dI) vwCl [(h0, .inr (10, [.ref (a 0), .ref (a 1), .ref (a 2), .ref (a 3), .ref (a 4), .ref (a 5), .ref (a 6), .ref (a 7), .ref (a 8), .ref (a 9), .ref (a 10), .ref (a 11), .ref (a 12), .ref (a 13), .ref (a 14), .ref (a 15), .ref (a 16), .ref (a 17), .ref (a 18), .ref (a 19), .int 0, .int 0, .int 0, .int 0, .int 0, .ref (a 25), .ref (a 26), .ref (a 27), .ref (a 28), .ref (a 29), .ref (a 30), .ref (a 31), .ref (a 32), .int 0, .ref (a 34), .ref (a 35), .ref (a 36), .ref (a 37), .int 0, .int (-1), .ref (a 40), .ref (a 41), .ref (a 42), .ref (a 43), .ref (a 44), .int 0]))] s.heap := hP
  have hl := lv_entry ([.ref h0, .int p0]) (n := 3) (Nat.le_of_ble_eq_true rfl)
  rw [lg_entry_eq]
  generalize (lg_sl ([.ref h0, .int p0]) ++ List.replicate (3 - (lg_sl ([.ref h0, .int p0])).length) Slot.unset).toArray = ls at hl ⊢
  have hl : lv_has ls 3 [(0, .ref h0), (1, .int p0)] := hl
  refine lv_iload_n hx hb dX9_tick_0 rfl (lv_at hl 1 rfl) ?_
  refine lv_iconst (v := 1) hx hb dX9_tick_1 (by decide) ?_
  refine lv_icmp_lt (tgt := 12) hx hb dX9_tick_2 (by decide) (fun c_1 => ?_) (fun c_1 => ?_)
  · refine lv_iconst (v := (-1)) hx hb dX9_tick_12 (by decide) ?_
    exact W.iret (v := (-1)) hx hb hr (fun t ht hW => ⟨⟨(-1), (), rfl, (if_neg (by have k0 := c_1; simp only [p1_le, p1_lt, p1_eq, p1_m6, p1_m1, p1_0, p1_1, p1_2, p1_3, p1_4, p1_5, p1_6, p1_7, p1_8, p1_9, p1_10, p1_11, p1_12, p1_13, p1_14, p1_15, p1_16, p1_17, p1_18, p1_19, p1_20, p1_40, p1_50, p1_200, p1_1000] at k0 ⊢; omega)).symm, trivial⟩, hS.F ht⟩) hS.2.2 dX9_tick_13
  · refine lv_iload_n hx hb dX9_tick_5 rfl (lv_at hl 1 rfl) ?_
    refine lv_sipush (v := 1000) hx hb dX9_tick_6 (by decide) ?_
    refine lv_icmp_le (tgt := 14) hx hb dX9_tick_9 (by decide) (fun c_2 => ?_) (fun c_2 => ?_)
    · refine lv_iconst (v := 0) hx hb dX9_tick_14 (by decide) ?_
      refine lv_istore_n (lv' := [(2, .int 0), (0, .ref h0), (1, .int p0)]) hx hb dX9_tick_15 rfl hl (by decide) rfl (fun ls hl => ?_)
      have hok : 1 ≤ p0 ∧ p0 ≤ 1000 := by have k0 := c_1; have k1 := c_2; simp only [p1_le, p1_lt, p1_eq, p1_m6, p1_m1, p1_0, p1_1, p1_2, p1_3, p1_4, p1_5, p1_6, p1_7, p1_8, p1_9, p1_10, p1_11, p1_12, p1_13, p1_14, p1_15, p1_16, p1_17, p1_18, p1_19, p1_20, p1_40, p1_50, p1_200, p1_1000] at k0 k1 ⊢; omega
      obtain ⟨N, hNb, eN⟩ := nI_of2 (x := p0) (M := 1000) (n := 1000) (by decide) (by have k0 := hok; simp only [p1_le, p1_lt, p1_eq, p1_m6, p1_m1, p1_0, p1_1, p1_2, p1_3, p1_4, p1_5, p1_6, p1_7, p1_8, p1_9, p1_10, p1_11, p1_12, p1_13, p1_14, p1_15, p1_16, p1_17, p1_18, p1_19, p1_20, p1_40, p1_50, p1_200, p1_1000] at k0 ⊢; omega) hok.2
      subst eN
      refine p1_gen (fun H locs hH hlo => ?_)
      replace hP : va_P (dC, dI) vwCl [(h0, .inr (10, [.ref (a 0), .ref (a 1), .ref (a 2), .ref (a 3), .ref (a 4), .ref (a 5), .ref (a 6), .ref (a 7), .ref (a 8), .ref (a 9), .ref (a 10), .ref (a 11), .ref (a 12), .ref (a 13), .ref (a 14), .ref (a 15), .ref (a 16), .ref (a 17), .ref (a 18), .ref (a 19), .int 0, .int 0, .int 0, .int 0, .int 0, .ref (a 25), .ref (a 26), .ref (a 27), .ref (a 28), .ref (a 29), .ref (a 30), .ref (a 31), .ref (a 32), .int 0, .ref (a 34), .ref (a 35), .ref (a 36), .ref (a 37), .int 0, .int (-1), .ref (a 40), .ref (a 41), .ref (a 42), .ref (a 43), .ref (a 44), .int 0]))] H := by rw [hH]; exact hP
      replace hS : va_S A s.heap H locs := by rw [hH, hlo]; exact va_S.rf
      clear hH hlo
      obtain ⟨i, hi⟩ : ∃ i : Nat, i = 0 := ⟨0, rfl⟩
      obtain ⟨k, hk⟩ : ∃ k : Nat, i + k = N := ⟨N, by omega⟩
      replace hP : va_P (dC, dI) vwCl [(h0, .inr (10, [.ref (a 0), .ref (a 1), .ref (a 2), .ref (a 3), .ref (a 4), .ref (a 5), .ref (a 6), .ref (a 7), .ref (a 8), .ref (a 9), .ref (a 10), .ref (a 11), .ref (a 12), .ref (a 13), .ref (a 14), .ref (a 15), .ref (a 16), .ref (a 17), .ref (a 18), .ref (a 19), .int 0, .int 0, .int (nI i), .int 0, .int 0, .ref (a 25), .ref (a 26), .ref (a 27), .ref (a 28), .ref (a 29), .ref (a 30), .ref (a 31), .ref (a 32), .int 0, .ref (a 34), .ref (a 35), .ref (a 36), .ref (a 37), .int 0, .int (-1), .ref (a 40), .ref (a 41), .ref (a 42), .ref (a 43), .ref (a 44), .int 0]))] H := by first | (rw [hi]; exact hP) | exact hP
      replace hD : va_D A [(h0, .inr (10, [.ref (a 0), .ref (a 1), .ref (a 2), .ref (a 3), .ref (a 4), .ref (a 5), .ref (a 6), .ref (a 7), .ref (a 8), .ref (a 9), .ref (a 10), .ref (a 11), .ref (a 12), .ref (a 13), .ref (a 14), .ref (a 15), .ref (a 16), .ref (a 17), .ref (a 18), .ref (a 19), .int 0, .int 0, .int (nI i), .int 0, .int 0, .ref (a 25), .ref (a 26), .ref (a 27), .ref (a 28), .ref (a 29), .ref (a 30), .ref (a 31), .ref (a 32), .int 0, .ref (a 34), .ref (a 35), .ref (a 36), .ref (a 37), .int 0, .int (-1), .ref (a 40), .ref (a 41), .ref (a 42), .ref (a 43), .ref (a 44), .int 0]))] := by first | (rw [hi]; exact hD) | exact hD
      replace hl : lv_has ls 3 [(2, .int (nI i)), (0, .ref h0), (1, .int (nI N))] := by rw [hi]; exact hl
      clear hi
      induction k generalizing i H locs ls with
      | zero =>
        refine lv_iload_n hx hb dX9_tick_16 rfl (lv_at hl 0 rfl) ?_
        refine lv_iload_n hx hb dX9_tick_17 rfl (lv_at hl 2 rfl) ?_
        refine lv_icmp_ge (tgt := 31) hx hb dX9_tick_18 (by decide) (fun _ => ?_) (fun c9 => absurd (show (nI N : Int32) ≤ nI i by rw [show i = N by omega]; exact Int32.le_refl _) c9)
        refine lv_aload_n hx hb dX9_tick_31 rfl (lv_at hl 1 rfl) ?_
        refine va_get (D := (dC, dI)) (ci := 10) (v := .int (nI i)) (C := RX9) (T := TX9) (N := 46) hx hb hts in_m_tick_X9 hown hK hP 0 rfl rfl 22 (by decide) (hts (.fieldLink RX9 129 "ServiceTreeModel" "tick" "I") (by decide +kernel)) (fun _ h9 => h9) rfl dX9_tick_32 ?_
        exact W.iret (v := (nI i)) hx hb hr (fun t ht hW => ⟨⟨(nI i), (), rfl, (by rw [if_pos hok, show i = N by omega]), trivial⟩, hS.F ht⟩) hS.2.2 dX9_tick_35
      | succ k ih =>
        refine lv_iload_n hx hb dX9_tick_16 rfl (lv_at hl 0 rfl) ?_
        refine lv_iload_n hx hb dX9_tick_17 rfl (lv_at hl 2 rfl) ?_
        refine lv_icmp_ge (tgt := 31) hx hb dX9_tick_18 (by decide) (fun c9 => absurd c9 (show ¬ (nI N : Int32) ≤ nI i from nI_ge (by omega) (by omega))) (fun _ => ?_)
        refine lv_aload_n hx hb dX9_tick_21 rfl (lv_at hl 1 rfl) ?_
        have hPc := hP.sub (ws' := [(h0, .inr (10, [.ref (a 0), .ref (a 1), .ref (a 2), .ref (a 3), .ref (a 4), .ref (a 5), .ref (a 6), .ref (a 7), .ref (a 8), .ref (a 9), .ref (a 10), .ref (a 11), .ref (a 12), .ref (a 13), .ref (a 14), .ref (a 15), .ref (a 16), .ref (a 17), .ref (a 18), .ref (a 19), .int 0, .int 0, .int (nI i), .int 0, .int 0, .ref (a 25), .ref (a 26), .ref (a 27), .ref (a 28), .ref (a 29), .ref (a 30), .ref (a 31), .ref (a 32), .int 0, .ref (a 34), .ref (a 35), .ref (a 36), .ref (a 37), .int 0, .int (-1), .ref (a 40), .ref (a 41), .ref (a 42), .ref (a 43), .ref (a 44), .int 0]))]) [0] rfl
        have hDc := hD.sub (ws' := [(h0, .inr (10, [.ref (a 0), .ref (a 1), .ref (a 2), .ref (a 3), .ref (a 4), .ref (a 5), .ref (a 6), .ref (a 7), .ref (a 8), .ref (a 9), .ref (a 10), .ref (a 11), .ref (a 12), .ref (a 13), .ref (a 14), .ref (a 15), .ref (a 16), .ref (a 17), .ref (a 18), .ref (a 19), .int 0, .int 0, .int (nI i), .int 0, .int 0, .ref (a 25), .ref (a 26), .ref (a 27), .ref (a 28), .ref (a 29), .ref (a 30), .ref (a 31), .ref (a 32), .int 0, .ref (a 34), .ref (a 35), .ref (a 36), .ref (a 37), .int 0, .int (-1), .ref (a 40), .ref (a 41), .ref (a 42), .ref (a 43), .ref (a 44), .int 0]))]) [0] (by decide) rfl
        have hKc := hK.sub (tys' := []) [] rfl
        have hFc := va_free (wc := [(h0, .inr (10, [.ref (a 0), .ref (a 1), .ref (a 2), .ref (a 3), .ref (a 4), .ref (a 5), .ref (a 6), .ref (a 7), .ref (a 8), .ref (a 9), .ref (a 10), .ref (a 11), .ref (a 12), .ref (a 13), .ref (a 14), .ref (a 15), .ref (a 16), .ref (a 17), .ref (a 18), .ref (a 19), .int 0, .int 0, .int (nI i), .int 0, .int 0, .ref (a 25), .ref (a 26), .ref (a 27), .ref (a 28), .ref (a 29), .ref (a 30), .ref (a 31), .ref (a 32), .int 0, .ref (a 34), .ref (a 35), .ref (a 36), .ref (a 37), .int 0, .int (-1), .ref (a 40), .ref (a 41), .ref (a 42), .ref (a 43), .ref (a 44), .int 0]))]) hD hS hA [0] rfl
        refine va_callv (va_runV (As := []) (rest := []) ⟨hx, hb, hml, hown, hts⟩ (c_oneTick l dC dI h0 a (nI i) H.size) (cwV 0 hts wc_m_tick_oneTick_246 rfl rfl rfl (by decide +kernel) ⟨Nat.le_of_ble_eq_true rfl, Nat.le_of_ble_eq_true rfl⟩) ⟨fun a U g mk q => by obtain ⟨q0, q1, qP, qK, qD, qN⟩ := q; exact ⟨q0, q1, qP, va_K.moved (u := U) (U := U.calling g mk a) (Vm.Alike.refl U.vm) qK, qD, pw_N.same (u := U) (U := U.calling g mk a) rfl qN⟩, va_recv hKc hPc (ci := 10) (q0 := 0) rfl rfl, fun U hU hW => ⟨rfl, by rw [hU], by rw [hU]; exact hPc, va_K.moved hW.alike hKc, hDc.weaken (fun _ _ _ _ => trivial), pw_N.warm hW hN⟩⟩ rfl rfl hl.1 rfl (lv_room (Nat.le_of_ble_eq_true rfl)) dX9_tick_22 ⟨Nat.le_of_ble_eq_true rfl, Nat.le_of_ble_eq_true rfl⟩) hS (fun q _ h => hFc q h) hFc (fun u t H1 locs ht hvm hw hB hz1 hk1 hS => ?_)
        obtain ⟨hP1, hD1⟩ := hB
        rw [ht] at hP1
        obtain ⟨hP, hD⟩ := va_join (wr := []) (w1 := [(h0, .inr (10, [.ref (a 0), .ref (a 1), .ref (a 2), .ref (a 3), .ref (a 4), .ref (a 5), .ref (a 6), .ref (a 7), .ref (a 8), .ref (a 9), .ref (a 10), .ref (a 11), .ref (a 12), .ref (a 13), .ref (a 14), .ref (a 15), .ref (a 16), .ref (a 17), .ref (a 18), .ref (a 19), .int 0, .int 0, .int ((nI i) + 1), .int 0, .int 0, .ref (a 25), .ref (a 26), .ref (a 27), .ref (a 28), .ref (a 29), .ref (a 30), .ref (a 31), .ref (a 32), .int 0, .ref (a 34), .ref (a 35), .ref (a 36), .ref (a 37), .int 0, .int (-1), .ref (a 40), .ref (a 41), .ref (a 42), .ref (a 43), .ref (a 44), .int 0]))]) hP hD [0] [] rfl rfl (by decide) (by decide) hk1 hFc hP1 hD1
        generalize H1 = H at hP hS ⊢
        replace hP : va_P (dC, dI) vwCl [(h0, .inr (10, [.ref (a 0), .ref (a 1), .ref (a 2), .ref (a 3), .ref (a 4), .ref (a 5), .ref (a 6), .ref (a 7), .ref (a 8), .ref (a 9), .ref (a 10), .ref (a 11), .ref (a 12), .ref (a 13), .ref (a 14), .ref (a 15), .ref (a 16), .ref (a 17), .ref (a 18), .ref (a 19), .int 0, .int 0, .int ((nI i) + 1), .int 0, .int 0, .ref (a 25), .ref (a 26), .ref (a 27), .ref (a 28), .ref (a 29), .ref (a 30), .ref (a 31), .ref (a 32), .int 0, .ref (a 34), .ref (a 35), .ref (a 36), .ref (a 37), .int 0, .int (-1), .ref (a 40), .ref (a 41), .ref (a 42), .ref (a 43), .ref (a 44), .int 0]))] H := hP
        replace hD : va_D A [(h0, .inr (10, [.ref (a 0), .ref (a 1), .ref (a 2), .ref (a 3), .ref (a 4), .ref (a 5), .ref (a 6), .ref (a 7), .ref (a 8), .ref (a 9), .ref (a 10), .ref (a 11), .ref (a 12), .ref (a 13), .ref (a 14), .ref (a 15), .ref (a 16), .ref (a 17), .ref (a 18), .ref (a 19), .int 0, .int 0, .int ((nI i) + 1), .int 0, .int 0, .ref (a 25), .ref (a 26), .ref (a 27), .ref (a 28), .ref (a 29), .ref (a 30), .ref (a 31), .ref (a 32), .int 0, .ref (a 34), .ref (a 35), .ref (a 36), .ref (a 37), .int 0, .int (-1), .ref (a 40), .ref (a 41), .ref (a 42), .ref (a 43), .ref (a 44), .int 0]))] := hD
        try dsimp only at hw
        refine lv_iinc (v := ((nI i) + 1)) (lv' := [(2, .int ((nI i) + 1)), (0, .ref h0), (1, .int (nI N))]) hx hb dX9_tick_25 hl (k := 0) rfl rfl (by decide) rfl (fun ls hl => ?_)
        refine lv_goto (tgt := 16) hx hb dX9_tick_28 (by decide) ?_
        have hP8 : va_P (dC, dI) vwCl [(h0, .inr (10, [.ref (a 0), .ref (a 1), .ref (a 2), .ref (a 3), .ref (a 4), .ref (a 5), .ref (a 6), .ref (a 7), .ref (a 8), .ref (a 9), .ref (a 10), .ref (a 11), .ref (a 12), .ref (a 13), .ref (a 14), .ref (a 15), .ref (a 16), .ref (a 17), .ref (a 18), .ref (a 19), .int 0, .int 0, .int (nI (i + 1)), .int 0, .int 0, .ref (a 25), .ref (a 26), .ref (a 27), .ref (a 28), .ref (a 29), .ref (a 30), .ref (a 31), .ref (a 32), .int 0, .ref (a 34), .ref (a 35), .ref (a 36), .ref (a 37), .int 0, .int (-1), .ref (a 40), .ref (a 41), .ref (a 42), .ref (a 43), .ref (a 44), .int 0]))] H := by first | (rw [nI_succ]; exact hP.sub [0] rfl) | exact hP.sub [0] rfl
        have hD8 : va_D A [(h0, .inr (10, [.ref (a 0), .ref (a 1), .ref (a 2), .ref (a 3), .ref (a 4), .ref (a 5), .ref (a 6), .ref (a 7), .ref (a 8), .ref (a 9), .ref (a 10), .ref (a 11), .ref (a 12), .ref (a 13), .ref (a 14), .ref (a 15), .ref (a 16), .ref (a 17), .ref (a 18), .ref (a 19), .int 0, .int 0, .int (nI (i + 1)), .int 0, .int 0, .ref (a 25), .ref (a 26), .ref (a 27), .ref (a 28), .ref (a 29), .ref (a 30), .ref (a 31), .ref (a 32), .int 0, .ref (a 34), .ref (a 35), .ref (a 36), .ref (a 37), .int 0, .int (-1), .ref (a 40), .ref (a 41), .ref (a 42), .ref (a 43), .ref (a 44), .int 0]))] := by first | (rw [nI_succ]; exact hD.sub [0] (by decide) rfl) | exact hD.sub [0] (by decide) rfl
        have hl8 : lv_has ls 3 [(2, .int (nI (i + 1))), (0, .ref h0), (1, .int (nI N))] := by first | (rw [nI_succ]; exact lv_sub hl [0, 1, 2] rfl) | exact lv_sub hl [0, 1, 2] rfl
        have hk8 : i + 1 + k = N := by omega
        apply ih (i := i + 1) <;> assumption
    · refine lv_iconst (v := (-1)) hx hb dX9_tick_12 (by decide) ?_
      exact W.iret (v := (-1)) hx hb hr (fun t ht hW => ⟨⟨(-1), (), rfl, (if_neg (by have k0 := c_1; have k1 := c_2; simp only [p1_le, p1_lt, p1_eq, p1_m6, p1_m1, p1_0, p1_1, p1_2, p1_3, p1_4, p1_5, p1_6, p1_7, p1_8, p1_9, p1_10, p1_11, p1_12, p1_13, p1_14, p1_15, p1_16, p1_17, p1_18, p1_19, p1_20, p1_40, p1_50, p1_200, p1_1000] at k0 k1 ⊢; omega)).symm, trivial⟩, hS.F ht⟩) hS.2.2 dX9_tick_13
